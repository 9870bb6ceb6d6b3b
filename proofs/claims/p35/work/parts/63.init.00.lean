theorem cl_L_7 : Cond.classLink RL 7 RX11 ∈ tblG := tg 111 (by decide +kernel) (by decide +kernel)
theorem oi_X11_3 : Cond.methodLink RX11 3 objectInit ∈ tblG := tg 116 (by decide +kernel) (by decide +kernel)
theorem cl_X11_9 : Cond.classLink RX11 9 RX1 ∈ tblG := tg 119 (by decide +kernel) (by decide +kernel)
theorem oi_X1_3 : Cond.methodLink RX1 3 objectInit ∈ tblG := tg 124 (by decide +kernel) (by decide +kernel)
theorem cl_X1_28 : Cond.classLink RX1 28 RX3 ∈ tblG := tg 125 (by decide +kernel) (by decide +kernel)
theorem cl_X1_34 : Cond.classLink RX1 34 RX6 ∈ tblG := tg 127 (by decide +kernel) (by decide +kernel)
theorem oi_X6_3 : Cond.methodLink RX6 3 objectInit ∈ tblG := tg 132 (by decide +kernel) (by decide +kernel)
theorem dgX6_init_0 : ∀ r ∈ ([(0, (.aload_n 0, 1)), (1, (.invokespecial 3, 3)), (4, (.aload_n 0, 1)), (5, (.iconst 0, 1)), (6, (.putfield 9, 3)), (9, (.aload_n 0, 1)), (10, (.iload_n 1, 1)), (11, (.putfield 15, 3)), (14, (.aload_n 0, 1)), (15, (.iload_n 2, 1)), (16, (.putfield 18, 3)), (19, (.aload_n 0, 1)), (20, (.iload_n 1, 1)), (21, (.iload_n 2, 1)), (22, (.imul, 1)), (23, (.newarray .int, 2)), (25, (.putfield 21, 3)), (28, (.return_, 1))] : List (Nat × (Instr × Nat))), decode cX6_init r.1 = .ok r.2 := by decide +kernel
theorem dX6_init_0 : decode cX6_init 0 = .ok (.aload_n 0, 1) := dgX6_init_0 (0, (.aload_n 0, 1)) (List.mem_of_getElem? (i := 0) rfl)
theorem dX6_init_1 : decode cX6_init 1 = .ok (.invokespecial 3, 3) := dgX6_init_0 (1, (.invokespecial 3, 3)) (List.mem_of_getElem? (i := 1) rfl)
theorem dX6_init_4 : decode cX6_init 4 = .ok (.aload_n 0, 1) := dgX6_init_0 (4, (.aload_n 0, 1)) (List.mem_of_getElem? (i := 2) rfl)
theorem dX6_init_5 : decode cX6_init 5 = .ok (.iconst 0, 1) := dgX6_init_0 (5, (.iconst 0, 1)) (List.mem_of_getElem? (i := 3) rfl)
theorem dX6_init_6 : decode cX6_init 6 = .ok (.putfield 9, 3) := dgX6_init_0 (6, (.putfield 9, 3)) (List.mem_of_getElem? (i := 4) rfl)
theorem dX6_init_9 : decode cX6_init 9 = .ok (.aload_n 0, 1) := dgX6_init_0 (9, (.aload_n 0, 1)) (List.mem_of_getElem? (i := 5) rfl)
theorem dX6_init_10 : decode cX6_init 10 = .ok (.iload_n 1, 1) := dgX6_init_0 (10, (.iload_n 1, 1)) (List.mem_of_getElem? (i := 6) rfl)
theorem dX6_init_11 : decode cX6_init 11 = .ok (.putfield 15, 3) := dgX6_init_0 (11, (.putfield 15, 3)) (List.mem_of_getElem? (i := 7) rfl)
theorem dX6_init_14 : decode cX6_init 14 = .ok (.aload_n 0, 1) := dgX6_init_0 (14, (.aload_n 0, 1)) (List.mem_of_getElem? (i := 8) rfl)
theorem dX6_init_15 : decode cX6_init 15 = .ok (.iload_n 2, 1) := dgX6_init_0 (15, (.iload_n 2, 1)) (List.mem_of_getElem? (i := 9) rfl)
theorem dX6_init_16 : decode cX6_init 16 = .ok (.putfield 18, 3) := dgX6_init_0 (16, (.putfield 18, 3)) (List.mem_of_getElem? (i := 10) rfl)
theorem dX6_init_19 : decode cX6_init 19 = .ok (.aload_n 0, 1) := dgX6_init_0 (19, (.aload_n 0, 1)) (List.mem_of_getElem? (i := 11) rfl)
theorem dX6_init_20 : decode cX6_init 20 = .ok (.iload_n 1, 1) := dgX6_init_0 (20, (.iload_n 1, 1)) (List.mem_of_getElem? (i := 12) rfl)
theorem dX6_init_21 : decode cX6_init 21 = .ok (.iload_n 2, 1) := dgX6_init_0 (21, (.iload_n 2, 1)) (List.mem_of_getElem? (i := 13) rfl)
theorem dX6_init_22 : decode cX6_init 22 = .ok (.imul, 1) := dgX6_init_0 (22, (.imul, 1)) (List.mem_of_getElem? (i := 14) rfl)
theorem dX6_init_23 : decode cX6_init 23 = .ok (.newarray .int, 2) := dgX6_init_0 (23, (.newarray .int, 2)) (List.mem_of_getElem? (i := 15) rfl)
theorem dX6_init_25 : decode cX6_init 25 = .ok (.putfield 21, 3) := dgX6_init_0 (25, (.putfield 21, 3)) (List.mem_of_getElem? (i := 16) rfl)
theorem dX6_init_28 : decode cX6_init 28 = .ok (.return_, 1) := dgX6_init_0 (28, (.return_, 1)) (List.mem_of_getElem? (i := 17) rfl)
set_option maxHeartbeats 4000000 in
set_option maxRecDepth 100000 in
theorem kX6_init (l : Launch) (G : g5_G) (a0 : Nat) (sz : Nat) : Met l yX6_init (wsG yX6_init cX6_init 3 none) ({ frames := 1, cells := 1, slots := 30, locals := 12 }) (va_Pc [.ref a0, .int 6, .int 5] (g5_P G [(a0, .inr (6, [.int 0, .int 0, .null, .int 0]))] sz)) (va_Qv (fun (u : va_W) => (∃ (q1 : Nat), (u = [(a0, (oc6 6 5 q1 0)), (q1, (arI G 30 (fun _ => 0)))]))) (g5_B G (va_A [(a0, .inr (6, [.int 0, .int 0, .null, .int 0]))] sz)) (va_A [(a0, .inr (6, [.int 0, .int 0, .null, .int 0]))] sz)) 1 30 (va_A [(a0, .inr (6, [.int 0, .int 0, .null, .int 0]))] sz) := by
  refine Met.ofW (cc := cX6_init) (maxL := 3) (ret := none) (by decide +kernel) rfl ?_
  intro p e s m args below meth c s₁ B hml hv
  obtain ⟨rfl, hsz, hP, hK, hD0, hN, hT⟩ := hv
  have hx := B.exec
  have hb := B.bytes
  have hr := B.returns
  have hts : ∀ w ∈ tblG, w.before _ s = true := fun w h => atoms_spec (ws := (wsG yX6_init cX6_init 3 none)) B.pre w (List.mem_cons_of_mem _ h)
  have hown : s.vm.findClass RX6 = some m.cls := findClass_of_methodNamed B.named
  have hlocks := B.notSynchronized
  have hin : meth.name = "<init>" := (name_of_methodNamed B.named B.method).1
  subst hsz
  have hD := hD0.self (sz := s.heap.size)
  generalize hAe : va_A [(a0, .inr (6, [.int 0, .int 0, .null, .int 0]))] s.heap.size = A at hD hT ⊢
  have hA : ∀ q : Nat, s.heap.size ≤ q → A q := fun q h => by rw [← hAe]; exact Or.inr h
  have hS : va_S A s.heap s.heap [] := va_S.rf
  replace hP : va_P G.1 vwCl [(a0, .inr (6, [.int 0, .int 0, .null, .int 0]))] s.heap := hP
  have hl := lv_entry ([.ref a0, .int 6, .int 5]) (n := 3) (Nat.le_of_ble_eq_true rfl)
  rw [lg_entry_eq]
  generalize (lg_sl ([.ref a0, .int 6, .int 5]) ++ List.replicate (3 - (lg_sl ([.ref a0, .int 6, .int 5])).length) Slot.unset).toArray = ls at hl ⊢
  replace hl : lv_has ls 3 [(0, .ref a0), (1, .int 6), (2, .int 5)] := hl
  refine lv_aload_n hx hb dX6_init_0 rfl (lv_at hl 0 rfl) ?_
  refine W.objInit hx hb hown (hts _ oi_X6_3) (hts _ oi_im) (hts _ oi_cd) rfl (by rw [hml]; exact hl.1) rfl dX6_init_1 (Nat.le_of_ble_eq_true rfl) (Nat.le_of_ble_eq_true rfl) ?_
  refine W.eq (g2 := F0 m 4 ls []) rfl ?_
  refine lv_aload_n hx hb dX6_init_4 rfl (lv_at hl 0 rfl) ?_
  refine lv_iconst (v := 0) hx hb dX6_init_5 (by decide +kernel) ?_
  refine W.eq (g2 := F0 m 6 ls [.int 0, .ref a0]) rfl ?_
  refine va_put (D := G.1) (ci := 6) (v := .int 0) (ty := .int) (C := RX6) (T := TX6) (N := 4) hx hb hts inG_X6 tyX6 tyX6_ok nmX6 hown hK hP hD hS 0 rfl rfl 3 (by decide +kernel) (hts _ fl_X6_9) (fun _ h9 => h9) rfl (by decide +kernel) rfl rfl (Nat.le_of_ble_eq_true rfl) dX6_init_6 ?_
  clear hP hD hS
  intro H locs hP hD hS
  refine g5_rs [(a0, .inr (6, [.int 0, .int 0, .null, .int 0]))] hP hD ?_
  clear hP hD
  intro hP hD
  refine lv_aload_n hx hb dX6_init_9 rfl (lv_at hl 0 rfl) ?_
  refine lv_iload_n hx hb dX6_init_10 rfl (lv_at hl 1 rfl) ?_
  refine va_putF (D := G.1) (ci := 6) (v := .int 6) (ty := .int) (C := RX6) (T := TX6) (N := 4) hx hb hts inG_X6 tyX6 tyX6_ok nmX6 hown hK hP hD hS 0 rfl rfl 0 (by decide +kernel) (hts _ fl_X6_15) (fun _ h9 => h9) rfl hin rfl (by decide +kernel) rfl rfl (Nat.le_of_ble_eq_true rfl) dX6_init_11 ?_
  clear hP hD hS
  intro H locs hP hD hS
  refine g5_rs [(a0, .inr (6, [.int 6, .int 0, .null, .int 0]))] hP hD ?_
  clear hP hD
  intro hP hD
  refine lv_aload_n hx hb dX6_init_14 rfl (lv_at hl 0 rfl) ?_
  refine W.eq (g2 := F0 m 15 ls [.ref a0]) rfl ?_
  refine lv_iload_n hx hb dX6_init_15 rfl (lv_at hl 2 rfl) ?_
  refine va_putF (D := G.1) (ci := 6) (v := .int 5) (ty := .int) (C := RX6) (T := TX6) (N := 4) hx hb hts inG_X6 tyX6 tyX6_ok nmX6 hown hK hP hD hS 0 rfl rfl 1 (by decide +kernel) (hts _ fl_X6_18) (fun _ h9 => h9) rfl hin rfl (by decide +kernel) rfl rfl (Nat.le_of_ble_eq_true rfl) dX6_init_16 ?_
  clear hP hD hS
  intro H locs hP hD hS
  refine g5_rs [(a0, .inr (6, [.int 6, .int 5, .null, .int 0]))] hP hD ?_
  clear hP hD
  intro hP hD
  refine lv_aload_n hx hb dX6_init_19 rfl (lv_at hl 0 rfl) ?_
  refine lv_iload_n hx hb dX6_init_20 rfl (lv_at hl 1 rfl) ?_
  refine lv_iload_n hx hb dX6_init_21 rfl (lv_at hl 2 rfl) ?_
  refine W.eq (g2 := F0 m 22 ls [.int 5, .int 6, .ref a0]) rfl ?_
  refine lv_imul hx hb dX6_init_22 ?_
  refine g5_ti (v := 30) (by decide +kernel) ?_
  refine va_newa (D := G.1) (atype := .int) (ty := .int) hx hb (hts _ acl_I) rfl hK hP hD hS hA (n := 30) (N' := 30) (a0 := (30, .inl (fun _ => 0))) (fun _ => rfl) (by decide +kernel) (by decide +kernel) (by decide +kernel) (Nat.le_of_ble_eq_true rfl) (Nat.le_of_ble_eq_true rfl) dX6_init_23 (fun q1 cA H hKn hP hD hS => ?_)
  obtain rfl : cA = G.2 0 := g5_cI hKn
  refine g5_rs [(a0, .inr (6, [.int 6, .int 5, .null, .int 0])), (q1, (arI G 30 (fun _ => 0)))] hP hD ?_
  clear hP hD
  intro hP hD
  refine W.widen (k := 1) (n := 30) (Nat.le_of_ble_eq_true rfl) (Nat.le_of_ble_eq_true rfl) ?_
  refine va_putF (D := G.1) (ci := 6) (v := .ref q1) (ty := .array .int) (C := RX6) (T := TX6) (N := 4) hx hb hts inG_X6 tyX6 tyX6_ok nmX6 hown hK hP hD hS 0 rfl rfl 2 (by decide +kernel) (hts _ fl_X6_21) (fun _ h9 => h9) rfl hin rfl (by decide +kernel) rfl rfl (Nat.le_of_ble_eq_true rfl) dX6_init_25 ?_
  clear hP hD hS
  intro H locs hP hD hS
  refine g5_rs [(a0, (oc6 6 5 q1 0)), (q1, (arI G 30 (fun _ => 0)))] hP hD ?_
  clear hP hD
  intro hP hD
  exact W.vret hx hb hr (fun t ht hW => ⟨⟨[(a0, (oc6 6 5 q1 0)), (q1, (arI G 30 (fun _ => 0)))], rfl, ⟨q1, rfl⟩, by rw [ht]; exact hP, hD⟩, hS.F ht⟩) hS.2.2 dX6_init_28
theorem cd_X6_init : Cond.code yX6_init cX6_init 3 none ∈ tblG := tg 131 (by decide +kernel) (by decide +kernel)
theorem gW_X6_init : GoodIn tblG (wsG yX6_init cX6_init 3 none) := tgi cd_X6_init
theorem ml_X1_36 : Cond.methodLink RX1 36 yX6_init ∈ tblG := tg 129 (by decide +kernel) (by decide +kernel)
theorem im_X6_init : Cond.instanceMethod yX6_init ∈ tblG := tg 130 (by decide +kernel) (by decide +kernel)
theorem hs_X6_init : yX6_init.cls ≠ "java/lang/invoke/MethodHandle" ∧ yX6_init.cls ≠ "java/lang/invoke/VarHandle" ∧ (parseMethodDescriptor yX6_init.desc).map (fun d => d.parameters.length) = some 2 := by decide +kernel
set_option maxHeartbeats 4000000 in
set_option maxRecDepth 100000 in
theorem kX6_init_2 (l : Launch) (G : g5_G) (a0 : Nat) (sz : Nat) : Met l yX6_init (wsG yX6_init cX6_init 3 none) ({ frames := 1, cells := 1, slots := 120, locals := 12 }) (va_Pc [.ref a0, .int 5, .int 24] (g5_P G [(a0, .inr (6, [.int 0, .int 0, .null, .int 0]))] sz)) (va_Qv (fun (u : va_W) => (∃ (q1 : Nat), (u = [(a0, (oc6 5 24 q1 0)), (q1, (arI G 120 (fun _ => 0)))]))) (g5_B G (va_A [(a0, .inr (6, [.int 0, .int 0, .null, .int 0]))] sz)) (va_A [(a0, .inr (6, [.int 0, .int 0, .null, .int 0]))] sz)) 1 120 (va_A [(a0, .inr (6, [.int 0, .int 0, .null, .int 0]))] sz) := by
  refine Met.ofW (cc := cX6_init) (maxL := 3) (ret := none) (by decide +kernel) rfl ?_
  intro p e s m args below meth c s₁ B hml hv
  obtain ⟨rfl, hsz, hP, hK, hD0, hN, hT⟩ := hv
  have hx := B.exec
  have hb := B.bytes
  have hr := B.returns
  have hts : ∀ w ∈ tblG, w.before _ s = true := fun w h => atoms_spec (ws := (wsG yX6_init cX6_init 3 none)) B.pre w (List.mem_cons_of_mem _ h)
  have hown : s.vm.findClass RX6 = some m.cls := findClass_of_methodNamed B.named
  have hlocks := B.notSynchronized
  have hin : meth.name = "<init>" := (name_of_methodNamed B.named B.method).1
  subst hsz
  have hD := hD0.self (sz := s.heap.size)
  generalize hAe : va_A [(a0, .inr (6, [.int 0, .int 0, .null, .int 0]))] s.heap.size = A at hD hT ⊢
  have hA : ∀ q : Nat, s.heap.size ≤ q → A q := fun q h => by rw [← hAe]; exact Or.inr h
  have hS : va_S A s.heap s.heap [] := va_S.rf
  replace hP : va_P G.1 vwCl [(a0, .inr (6, [.int 0, .int 0, .null, .int 0]))] s.heap := hP
  have hl := lv_entry ([.ref a0, .int 5, .int 24]) (n := 3) (Nat.le_of_ble_eq_true rfl)
  rw [lg_entry_eq]
  generalize (lg_sl ([.ref a0, .int 5, .int 24]) ++ List.replicate (3 - (lg_sl ([.ref a0, .int 5, .int 24])).length) Slot.unset).toArray = ls at hl ⊢
  replace hl : lv_has ls 3 [(0, .ref a0), (1, .int 5), (2, .int 24)] := hl
  refine lv_aload_n hx hb dX6_init_0 rfl (lv_at hl 0 rfl) ?_
  refine W.objInit hx hb hown (hts _ oi_X6_3) (hts _ oi_im) (hts _ oi_cd) rfl (by rw [hml]; exact hl.1) rfl dX6_init_1 (Nat.le_of_ble_eq_true rfl) (Nat.le_of_ble_eq_true rfl) ?_
  refine W.eq (g2 := F0 m 4 ls []) rfl ?_
  refine lv_aload_n hx hb dX6_init_4 rfl (lv_at hl 0 rfl) ?_
  refine lv_iconst (v := 0) hx hb dX6_init_5 (by decide +kernel) ?_
  refine W.eq (g2 := F0 m 6 ls [.int 0, .ref a0]) rfl ?_
  refine va_put (D := G.1) (ci := 6) (v := .int 0) (ty := .int) (C := RX6) (T := TX6) (N := 4) hx hb hts inG_X6 tyX6 tyX6_ok nmX6 hown hK hP hD hS 0 rfl rfl 3 (by decide +kernel) (hts _ fl_X6_9) (fun _ h9 => h9) rfl (by decide +kernel) rfl rfl (Nat.le_of_ble_eq_true rfl) dX6_init_6 ?_
  clear hP hD hS
  intro H locs hP hD hS
  refine g5_rs [(a0, .inr (6, [.int 0, .int 0, .null, .int 0]))] hP hD ?_
  clear hP hD
  intro hP hD
  refine lv_aload_n hx hb dX6_init_9 rfl (lv_at hl 0 rfl) ?_
  refine lv_iload_n hx hb dX6_init_10 rfl (lv_at hl 1 rfl) ?_
  refine va_putF (D := G.1) (ci := 6) (v := .int 5) (ty := .int) (C := RX6) (T := TX6) (N := 4) hx hb hts inG_X6 tyX6 tyX6_ok nmX6 hown hK hP hD hS 0 rfl rfl 0 (by decide +kernel) (hts _ fl_X6_15) (fun _ h9 => h9) rfl hin rfl (by decide +kernel) rfl rfl (Nat.le_of_ble_eq_true rfl) dX6_init_11 ?_
  clear hP hD hS
  intro H locs hP hD hS
  refine g5_rs [(a0, .inr (6, [.int 5, .int 0, .null, .int 0]))] hP hD ?_
  clear hP hD
  intro hP hD
  refine lv_aload_n hx hb dX6_init_14 rfl (lv_at hl 0 rfl) ?_
  refine W.eq (g2 := F0 m 15 ls [.ref a0]) rfl ?_
  refine lv_iload_n hx hb dX6_init_15 rfl (lv_at hl 2 rfl) ?_
  refine va_putF (D := G.1) (ci := 6) (v := .int 24) (ty := .int) (C := RX6) (T := TX6) (N := 4) hx hb hts inG_X6 tyX6 tyX6_ok nmX6 hown hK hP hD hS 0 rfl rfl 1 (by decide +kernel) (hts _ fl_X6_18) (fun _ h9 => h9) rfl hin rfl (by decide +kernel) rfl rfl (Nat.le_of_ble_eq_true rfl) dX6_init_16 ?_
  clear hP hD hS
  intro H locs hP hD hS
  refine g5_rs [(a0, .inr (6, [.int 5, .int 24, .null, .int 0]))] hP hD ?_
  clear hP hD
  intro hP hD
  refine lv_aload_n hx hb dX6_init_19 rfl (lv_at hl 0 rfl) ?_
  refine lv_iload_n hx hb dX6_init_20 rfl (lv_at hl 1 rfl) ?_
  refine lv_iload_n hx hb dX6_init_21 rfl (lv_at hl 2 rfl) ?_
  refine W.eq (g2 := F0 m 22 ls [.int 24, .int 5, .ref a0]) rfl ?_
  refine lv_imul hx hb dX6_init_22 ?_
  refine g5_ti (v := 120) (by decide +kernel) ?_
  refine va_newa (D := G.1) (atype := .int) (ty := .int) hx hb (hts _ acl_I) rfl hK hP hD hS hA (n := 120) (N' := 120) (a0 := (120, .inl (fun _ => 0))) (fun _ => rfl) (by decide +kernel) (by decide +kernel) (by decide +kernel) (Nat.le_of_ble_eq_true rfl) (Nat.le_of_ble_eq_true rfl) dX6_init_23 (fun q1 cA H hKn hP hD hS => ?_)
  obtain rfl : cA = G.2 0 := g5_cI hKn
  refine g5_rs [(a0, .inr (6, [.int 5, .int 24, .null, .int 0])), (q1, (arI G 120 (fun _ => 0)))] hP hD ?_
  clear hP hD
  intro hP hD
  refine W.widen (k := 1) (n := 120) (Nat.le_of_ble_eq_true rfl) (Nat.le_of_ble_eq_true rfl) ?_
  refine va_putF (D := G.1) (ci := 6) (v := .ref q1) (ty := .array .int) (C := RX6) (T := TX6) (N := 4) hx hb hts inG_X6 tyX6 tyX6_ok nmX6 hown hK hP hD hS 0 rfl rfl 2 (by decide +kernel) (hts _ fl_X6_21) (fun _ h9 => h9) rfl hin rfl (by decide +kernel) rfl rfl (Nat.le_of_ble_eq_true rfl) dX6_init_25 ?_
  clear hP hD hS
  intro H locs hP hD hS
  refine g5_rs [(a0, (oc6 5 24 q1 0)), (q1, (arI G 120 (fun _ => 0)))] hP hD ?_
  clear hP hD
  intro hP hD
  exact W.vret hx hb hr (fun t ht hW => ⟨⟨[(a0, (oc6 5 24 q1 0)), (q1, (arI G 120 (fun _ => 0)))], rfl, ⟨q1, rfl⟩, by rw [ht]; exact hP, hD⟩, hS.F ht⟩) hS.2.2 dX6_init_28
set_option maxHeartbeats 4000000 in
set_option maxRecDepth 100000 in
theorem kX6_init_3 (l : Launch) (G : g5_G) (a0 : Nat) (sz : Nat) : Met l yX6_init (wsG yX6_init cX6_init 3 none) ({ frames := 1, cells := 1, slots := 40, locals := 12 }) (va_Pc [.ref a0, .int 10, .int 4] (g5_P G [(a0, .inr (6, [.int 0, .int 0, .null, .int 0]))] sz)) (va_Qv (fun (u : va_W) => (∃ (q1 : Nat), (u = [(a0, (oc6 10 4 q1 0)), (q1, (arI G 40 (fun _ => 0)))]))) (g5_B G (va_A [(a0, .inr (6, [.int 0, .int 0, .null, .int 0]))] sz)) (va_A [(a0, .inr (6, [.int 0, .int 0, .null, .int 0]))] sz)) 1 40 (va_A [(a0, .inr (6, [.int 0, .int 0, .null, .int 0]))] sz) := by
  refine Met.ofW (cc := cX6_init) (maxL := 3) (ret := none) (by decide +kernel) rfl ?_
  intro p e s m args below meth c s₁ B hml hv
  obtain ⟨rfl, hsz, hP, hK, hD0, hN, hT⟩ := hv
  have hx := B.exec
  have hb := B.bytes
  have hr := B.returns
  have hts : ∀ w ∈ tblG, w.before _ s = true := fun w h => atoms_spec (ws := (wsG yX6_init cX6_init 3 none)) B.pre w (List.mem_cons_of_mem _ h)
  have hown : s.vm.findClass RX6 = some m.cls := findClass_of_methodNamed B.named
  have hlocks := B.notSynchronized
  have hin : meth.name = "<init>" := (name_of_methodNamed B.named B.method).1
  subst hsz
  have hD := hD0.self (sz := s.heap.size)
  generalize hAe : va_A [(a0, .inr (6, [.int 0, .int 0, .null, .int 0]))] s.heap.size = A at hD hT ⊢
  have hA : ∀ q : Nat, s.heap.size ≤ q → A q := fun q h => by rw [← hAe]; exact Or.inr h
  have hS : va_S A s.heap s.heap [] := va_S.rf
  replace hP : va_P G.1 vwCl [(a0, .inr (6, [.int 0, .int 0, .null, .int 0]))] s.heap := hP
  have hl := lv_entry ([.ref a0, .int 10, .int 4]) (n := 3) (Nat.le_of_ble_eq_true rfl)
  rw [lg_entry_eq]
  generalize (lg_sl ([.ref a0, .int 10, .int 4]) ++ List.replicate (3 - (lg_sl ([.ref a0, .int 10, .int 4])).length) Slot.unset).toArray = ls at hl ⊢
  replace hl : lv_has ls 3 [(0, .ref a0), (1, .int 10), (2, .int 4)] := hl
  refine lv_aload_n hx hb dX6_init_0 rfl (lv_at hl 0 rfl) ?_
  refine W.objInit hx hb hown (hts _ oi_X6_3) (hts _ oi_im) (hts _ oi_cd) rfl (by rw [hml]; exact hl.1) rfl dX6_init_1 (Nat.le_of_ble_eq_true rfl) (Nat.le_of_ble_eq_true rfl) ?_
  refine W.eq (g2 := F0 m 4 ls []) rfl ?_
  refine lv_aload_n hx hb dX6_init_4 rfl (lv_at hl 0 rfl) ?_
  refine lv_iconst (v := 0) hx hb dX6_init_5 (by decide +kernel) ?_
  refine W.eq (g2 := F0 m 6 ls [.int 0, .ref a0]) rfl ?_
  refine va_put (D := G.1) (ci := 6) (v := .int 0) (ty := .int) (C := RX6) (T := TX6) (N := 4) hx hb hts inG_X6 tyX6 tyX6_ok nmX6 hown hK hP hD hS 0 rfl rfl 3 (by decide +kernel) (hts _ fl_X6_9) (fun _ h9 => h9) rfl (by decide +kernel) rfl rfl (Nat.le_of_ble_eq_true rfl) dX6_init_6 ?_
  clear hP hD hS
  intro H locs hP hD hS
  refine g5_rs [(a0, .inr (6, [.int 0, .int 0, .null, .int 0]))] hP hD ?_
  clear hP hD
  intro hP hD
  refine lv_aload_n hx hb dX6_init_9 rfl (lv_at hl 0 rfl) ?_
  refine lv_iload_n hx hb dX6_init_10 rfl (lv_at hl 1 rfl) ?_
  refine va_putF (D := G.1) (ci := 6) (v := .int 10) (ty := .int) (C := RX6) (T := TX6) (N := 4) hx hb hts inG_X6 tyX6 tyX6_ok nmX6 hown hK hP hD hS 0 rfl rfl 0 (by decide +kernel) (hts _ fl_X6_15) (fun _ h9 => h9) rfl hin rfl (by decide +kernel) rfl rfl (Nat.le_of_ble_eq_true rfl) dX6_init_11 ?_
  clear hP hD hS
  intro H locs hP hD hS
  refine g5_rs [(a0, .inr (6, [.int 10, .int 0, .null, .int 0]))] hP hD ?_
  clear hP hD
  intro hP hD
  refine lv_aload_n hx hb dX6_init_14 rfl (lv_at hl 0 rfl) ?_
  refine W.eq (g2 := F0 m 15 ls [.ref a0]) rfl ?_
  refine lv_iload_n hx hb dX6_init_15 rfl (lv_at hl 2 rfl) ?_
  refine va_putF (D := G.1) (ci := 6) (v := .int 4) (ty := .int) (C := RX6) (T := TX6) (N := 4) hx hb hts inG_X6 tyX6 tyX6_ok nmX6 hown hK hP hD hS 0 rfl rfl 1 (by decide +kernel) (hts _ fl_X6_18) (fun _ h9 => h9) rfl hin rfl (by decide +kernel) rfl rfl (Nat.le_of_ble_eq_true rfl) dX6_init_16 ?_
  clear hP hD hS
  intro H locs hP hD hS
  refine g5_rs [(a0, .inr (6, [.int 10, .int 4, .null, .int 0]))] hP hD ?_
  clear hP hD
  intro hP hD
  refine lv_aload_n hx hb dX6_init_19 rfl (lv_at hl 0 rfl) ?_
  refine lv_iload_n hx hb dX6_init_20 rfl (lv_at hl 1 rfl) ?_
  refine lv_iload_n hx hb dX6_init_21 rfl (lv_at hl 2 rfl) ?_
  refine W.eq (g2 := F0 m 22 ls [.int 4, .int 10, .ref a0]) rfl ?_
  refine lv_imul hx hb dX6_init_22 ?_
  refine g5_ti (v := 40) (by decide +kernel) ?_
  refine va_newa (D := G.1) (atype := .int) (ty := .int) hx hb (hts _ acl_I) rfl hK hP hD hS hA (n := 40) (N' := 40) (a0 := (40, .inl (fun _ => 0))) (fun _ => rfl) (by decide +kernel) (by decide +kernel) (by decide +kernel) (Nat.le_of_ble_eq_true rfl) (Nat.le_of_ble_eq_true rfl) dX6_init_23 (fun q1 cA H hKn hP hD hS => ?_)
  obtain rfl : cA = G.2 0 := g5_cI hKn
  refine g5_rs [(a0, .inr (6, [.int 10, .int 4, .null, .int 0])), (q1, (arI G 40 (fun _ => 0)))] hP hD ?_
  clear hP hD
  intro hP hD
  refine W.widen (k := 1) (n := 40) (Nat.le_of_ble_eq_true rfl) (Nat.le_of_ble_eq_true rfl) ?_
  refine va_putF (D := G.1) (ci := 6) (v := .ref q1) (ty := .array .int) (C := RX6) (T := TX6) (N := 4) hx hb hts inG_X6 tyX6 tyX6_ok nmX6 hown hK hP hD hS 0 rfl rfl 2 (by decide +kernel) (hts _ fl_X6_21) (fun _ h9 => h9) rfl hin rfl (by decide +kernel) rfl rfl (Nat.le_of_ble_eq_true rfl) dX6_init_25 ?_
  clear hP hD hS
  intro H locs hP hD hS
  refine g5_rs [(a0, (oc6 10 4 q1 0)), (q1, (arI G 40 (fun _ => 0)))] hP hD ?_
  clear hP hD
  intro hP hD
  exact W.vret hx hb hr (fun t ht hW => ⟨⟨[(a0, (oc6 10 4 q1 0)), (q1, (arI G 40 (fun _ => 0)))], rfl, ⟨q1, rfl⟩, by rw [ht]; exact hP, hD⟩, hS.F ht⟩) hS.2.2 dX6_init_28
set_option maxHeartbeats 4000000 in
set_option maxRecDepth 100000 in
theorem kX6_init_4 (l : Launch) (G : g5_G) (a0 : Nat) (sz : Nat) : Met l yX6_init (wsG yX6_init cX6_init 3 none) ({ frames := 1, cells := 1, slots := 40, locals := 12 }) (va_Pc [.ref a0, .int 8, .int 5] (g5_P G [(a0, .inr (6, [.int 0, .int 0, .null, .int 0]))] sz)) (va_Qv (fun (u : va_W) => (∃ (q1 : Nat), (u = [(a0, (oc6 8 5 q1 0)), (q1, (arI G 40 (fun _ => 0)))]))) (g5_B G (va_A [(a0, .inr (6, [.int 0, .int 0, .null, .int 0]))] sz)) (va_A [(a0, .inr (6, [.int 0, .int 0, .null, .int 0]))] sz)) 1 40 (va_A [(a0, .inr (6, [.int 0, .int 0, .null, .int 0]))] sz) := by
  refine Met.ofW (cc := cX6_init) (maxL := 3) (ret := none) (by decide +kernel) rfl ?_
  intro p e s m args below meth c s₁ B hml hv
  obtain ⟨rfl, hsz, hP, hK, hD0, hN, hT⟩ := hv
  have hx := B.exec
  have hb := B.bytes
  have hr := B.returns
  have hts : ∀ w ∈ tblG, w.before _ s = true := fun w h => atoms_spec (ws := (wsG yX6_init cX6_init 3 none)) B.pre w (List.mem_cons_of_mem _ h)
  have hown : s.vm.findClass RX6 = some m.cls := findClass_of_methodNamed B.named
  have hlocks := B.notSynchronized
  have hin : meth.name = "<init>" := (name_of_methodNamed B.named B.method).1
  subst hsz
  have hD := hD0.self (sz := s.heap.size)
  generalize hAe : va_A [(a0, .inr (6, [.int 0, .int 0, .null, .int 0]))] s.heap.size = A at hD hT ⊢
  have hA : ∀ q : Nat, s.heap.size ≤ q → A q := fun q h => by rw [← hAe]; exact Or.inr h
  have hS : va_S A s.heap s.heap [] := va_S.rf
  replace hP : va_P G.1 vwCl [(a0, .inr (6, [.int 0, .int 0, .null, .int 0]))] s.heap := hP
  have hl := lv_entry ([.ref a0, .int 8, .int 5]) (n := 3) (Nat.le_of_ble_eq_true rfl)
  rw [lg_entry_eq]
  generalize (lg_sl ([.ref a0, .int 8, .int 5]) ++ List.replicate (3 - (lg_sl ([.ref a0, .int 8, .int 5])).length) Slot.unset).toArray = ls at hl ⊢
  replace hl : lv_has ls 3 [(0, .ref a0), (1, .int 8), (2, .int 5)] := hl
  refine lv_aload_n hx hb dX6_init_0 rfl (lv_at hl 0 rfl) ?_
  refine W.objInit hx hb hown (hts _ oi_X6_3) (hts _ oi_im) (hts _ oi_cd) rfl (by rw [hml]; exact hl.1) rfl dX6_init_1 (Nat.le_of_ble_eq_true rfl) (Nat.le_of_ble_eq_true rfl) ?_
  refine W.eq (g2 := F0 m 4 ls []) rfl ?_
  refine lv_aload_n hx hb dX6_init_4 rfl (lv_at hl 0 rfl) ?_
  refine lv_iconst (v := 0) hx hb dX6_init_5 (by decide +kernel) ?_
  refine W.eq (g2 := F0 m 6 ls [.int 0, .ref a0]) rfl ?_
  refine va_put (D := G.1) (ci := 6) (v := .int 0) (ty := .int) (C := RX6) (T := TX6) (N := 4) hx hb hts inG_X6 tyX6 tyX6_ok nmX6 hown hK hP hD hS 0 rfl rfl 3 (by decide +kernel) (hts _ fl_X6_9) (fun _ h9 => h9) rfl (by decide +kernel) rfl rfl (Nat.le_of_ble_eq_true rfl) dX6_init_6 ?_
  clear hP hD hS
  intro H locs hP hD hS
  refine g5_rs [(a0, .inr (6, [.int 0, .int 0, .null, .int 0]))] hP hD ?_
  clear hP hD
  intro hP hD
  refine lv_aload_n hx hb dX6_init_9 rfl (lv_at hl 0 rfl) ?_
  refine lv_iload_n hx hb dX6_init_10 rfl (lv_at hl 1 rfl) ?_
  refine va_putF (D := G.1) (ci := 6) (v := .int 8) (ty := .int) (C := RX6) (T := TX6) (N := 4) hx hb hts inG_X6 tyX6 tyX6_ok nmX6 hown hK hP hD hS 0 rfl rfl 0 (by decide +kernel) (hts _ fl_X6_15) (fun _ h9 => h9) rfl hin rfl (by decide +kernel) rfl rfl (Nat.le_of_ble_eq_true rfl) dX6_init_11 ?_
  clear hP hD hS
  intro H locs hP hD hS
  refine g5_rs [(a0, .inr (6, [.int 8, .int 0, .null, .int 0]))] hP hD ?_
  clear hP hD
  intro hP hD
  refine lv_aload_n hx hb dX6_init_14 rfl (lv_at hl 0 rfl) ?_
  refine W.eq (g2 := F0 m 15 ls [.ref a0]) rfl ?_
  refine lv_iload_n hx hb dX6_init_15 rfl (lv_at hl 2 rfl) ?_
  refine va_putF (D := G.1) (ci := 6) (v := .int 5) (ty := .int) (C := RX6) (T := TX6) (N := 4) hx hb hts inG_X6 tyX6 tyX6_ok nmX6 hown hK hP hD hS 0 rfl rfl 1 (by decide +kernel) (hts _ fl_X6_18) (fun _ h9 => h9) rfl hin rfl (by decide +kernel) rfl rfl (Nat.le_of_ble_eq_true rfl) dX6_init_16 ?_
  clear hP hD hS
  intro H locs hP hD hS
  refine g5_rs [(a0, .inr (6, [.int 8, .int 5, .null, .int 0]))] hP hD ?_
  clear hP hD
  intro hP hD
  refine lv_aload_n hx hb dX6_init_19 rfl (lv_at hl 0 rfl) ?_
  refine lv_iload_n hx hb dX6_init_20 rfl (lv_at hl 1 rfl) ?_
  refine lv_iload_n hx hb dX6_init_21 rfl (lv_at hl 2 rfl) ?_
  refine W.eq (g2 := F0 m 22 ls [.int 5, .int 8, .ref a0]) rfl ?_
  refine lv_imul hx hb dX6_init_22 ?_
  refine g5_ti (v := 40) (by decide +kernel) ?_
  refine va_newa (D := G.1) (atype := .int) (ty := .int) hx hb (hts _ acl_I) rfl hK hP hD hS hA (n := 40) (N' := 40) (a0 := (40, .inl (fun _ => 0))) (fun _ => rfl) (by decide +kernel) (by decide +kernel) (by decide +kernel) (Nat.le_of_ble_eq_true rfl) (Nat.le_of_ble_eq_true rfl) dX6_init_23 (fun q1 cA H hKn hP hD hS => ?_)
  obtain rfl : cA = G.2 0 := g5_cI hKn
  refine g5_rs [(a0, .inr (6, [.int 8, .int 5, .null, .int 0])), (q1, (arI G 40 (fun _ => 0)))] hP hD ?_
  clear hP hD
  intro hP hD
  refine W.widen (k := 1) (n := 40) (Nat.le_of_ble_eq_true rfl) (Nat.le_of_ble_eq_true rfl) ?_
  refine va_putF (D := G.1) (ci := 6) (v := .ref q1) (ty := .array .int) (C := RX6) (T := TX6) (N := 4) hx hb hts inG_X6 tyX6 tyX6_ok nmX6 hown hK hP hD hS 0 rfl rfl 2 (by decide +kernel) (hts _ fl_X6_21) (fun _ h9 => h9) rfl hin rfl (by decide +kernel) rfl rfl (Nat.le_of_ble_eq_true rfl) dX6_init_25 ?_
  clear hP hD hS
  intro H locs hP hD hS
  refine g5_rs [(a0, (oc6 8 5 q1 0)), (q1, (arI G 40 (fun _ => 0)))] hP hD ?_
  clear hP hD
  intro hP hD
  exact W.vret hx hb hr (fun t ht hW => ⟨⟨[(a0, (oc6 8 5 q1 0)), (q1, (arI G 40 (fun _ => 0)))], rfl, ⟨q1, rfl⟩, by rw [ht]; exact hP, hD⟩, hS.F ht⟩) hS.2.2 dX6_init_28
set_option maxHeartbeats 4000000 in
set_option maxRecDepth 100000 in
theorem kX6_init_5 (l : Launch) (G : g5_G) (a0 : Nat) (sz : Nat) : Met l yX6_init (wsG yX6_init cX6_init 3 none) ({ frames := 1, cells := 1, slots := 36, locals := 12 }) (va_Pc [.ref a0, .int 6, .int 6] (g5_P G [(a0, .inr (6, [.int 0, .int 0, .null, .int 0]))] sz)) (va_Qv (fun (u : va_W) => (∃ (q1 : Nat), (u = [(a0, (oc6 6 6 q1 0)), (q1, (arI G 36 (fun _ => 0)))]))) (g5_B G (va_A [(a0, .inr (6, [.int 0, .int 0, .null, .int 0]))] sz)) (va_A [(a0, .inr (6, [.int 0, .int 0, .null, .int 0]))] sz)) 1 36 (va_A [(a0, .inr (6, [.int 0, .int 0, .null, .int 0]))] sz) := by
  refine Met.ofW (cc := cX6_init) (maxL := 3) (ret := none) (by decide +kernel) rfl ?_
  intro p e s m args below meth c s₁ B hml hv
  obtain ⟨rfl, hsz, hP, hK, hD0, hN, hT⟩ := hv
  have hx := B.exec
  have hb := B.bytes
  have hr := B.returns
  have hts : ∀ w ∈ tblG, w.before _ s = true := fun w h => atoms_spec (ws := (wsG yX6_init cX6_init 3 none)) B.pre w (List.mem_cons_of_mem _ h)
  have hown : s.vm.findClass RX6 = some m.cls := findClass_of_methodNamed B.named
  have hlocks := B.notSynchronized
  have hin : meth.name = "<init>" := (name_of_methodNamed B.named B.method).1
  subst hsz
  have hD := hD0.self (sz := s.heap.size)
  generalize hAe : va_A [(a0, .inr (6, [.int 0, .int 0, .null, .int 0]))] s.heap.size = A at hD hT ⊢
  have hA : ∀ q : Nat, s.heap.size ≤ q → A q := fun q h => by rw [← hAe]; exact Or.inr h
  have hS : va_S A s.heap s.heap [] := va_S.rf
  replace hP : va_P G.1 vwCl [(a0, .inr (6, [.int 0, .int 0, .null, .int 0]))] s.heap := hP
  have hl := lv_entry ([.ref a0, .int 6, .int 6]) (n := 3) (Nat.le_of_ble_eq_true rfl)
  rw [lg_entry_eq]
  generalize (lg_sl ([.ref a0, .int 6, .int 6]) ++ List.replicate (3 - (lg_sl ([.ref a0, .int 6, .int 6])).length) Slot.unset).toArray = ls at hl ⊢
  replace hl : lv_has ls 3 [(0, .ref a0), (1, .int 6), (2, .int 6)] := hl
  refine lv_aload_n hx hb dX6_init_0 rfl (lv_at hl 0 rfl) ?_
  refine W.objInit hx hb hown (hts _ oi_X6_3) (hts _ oi_im) (hts _ oi_cd) rfl (by rw [hml]; exact hl.1) rfl dX6_init_1 (Nat.le_of_ble_eq_true rfl) (Nat.le_of_ble_eq_true rfl) ?_
  refine W.eq (g2 := F0 m 4 ls []) rfl ?_
  refine lv_aload_n hx hb dX6_init_4 rfl (lv_at hl 0 rfl) ?_
  refine lv_iconst (v := 0) hx hb dX6_init_5 (by decide +kernel) ?_
  refine W.eq (g2 := F0 m 6 ls [.int 0, .ref a0]) rfl ?_
  refine va_put (D := G.1) (ci := 6) (v := .int 0) (ty := .int) (C := RX6) (T := TX6) (N := 4) hx hb hts inG_X6 tyX6 tyX6_ok nmX6 hown hK hP hD hS 0 rfl rfl 3 (by decide +kernel) (hts _ fl_X6_9) (fun _ h9 => h9) rfl (by decide +kernel) rfl rfl (Nat.le_of_ble_eq_true rfl) dX6_init_6 ?_
  clear hP hD hS
  intro H locs hP hD hS
  refine g5_rs [(a0, .inr (6, [.int 0, .int 0, .null, .int 0]))] hP hD ?_
  clear hP hD
  intro hP hD
  refine lv_aload_n hx hb dX6_init_9 rfl (lv_at hl 0 rfl) ?_
  refine lv_iload_n hx hb dX6_init_10 rfl (lv_at hl 1 rfl) ?_
  refine va_putF (D := G.1) (ci := 6) (v := .int 6) (ty := .int) (C := RX6) (T := TX6) (N := 4) hx hb hts inG_X6 tyX6 tyX6_ok nmX6 hown hK hP hD hS 0 rfl rfl 0 (by decide +kernel) (hts _ fl_X6_15) (fun _ h9 => h9) rfl hin rfl (by decide +kernel) rfl rfl (Nat.le_of_ble_eq_true rfl) dX6_init_11 ?_
  clear hP hD hS
  intro H locs hP hD hS
  refine g5_rs [(a0, .inr (6, [.int 6, .int 0, .null, .int 0]))] hP hD ?_
  clear hP hD
  intro hP hD
  refine lv_aload_n hx hb dX6_init_14 rfl (lv_at hl 0 rfl) ?_
  refine W.eq (g2 := F0 m 15 ls [.ref a0]) rfl ?_
  refine lv_iload_n hx hb dX6_init_15 rfl (lv_at hl 2 rfl) ?_
  refine va_putF (D := G.1) (ci := 6) (v := .int 6) (ty := .int) (C := RX6) (T := TX6) (N := 4) hx hb hts inG_X6 tyX6 tyX6_ok nmX6 hown hK hP hD hS 0 rfl rfl 1 (by decide +kernel) (hts _ fl_X6_18) (fun _ h9 => h9) rfl hin rfl (by decide +kernel) rfl rfl (Nat.le_of_ble_eq_true rfl) dX6_init_16 ?_
  clear hP hD hS
  intro H locs hP hD hS
  refine g5_rs [(a0, .inr (6, [.int 6, .int 6, .null, .int 0]))] hP hD ?_
  clear hP hD
  intro hP hD
  refine lv_aload_n hx hb dX6_init_19 rfl (lv_at hl 0 rfl) ?_
  refine lv_iload_n hx hb dX6_init_20 rfl (lv_at hl 1 rfl) ?_
  refine lv_iload_n hx hb dX6_init_21 rfl (lv_at hl 2 rfl) ?_
  refine W.eq (g2 := F0 m 22 ls [.int 6, .int 6, .ref a0]) rfl ?_
  refine lv_imul hx hb dX6_init_22 ?_
  refine g5_ti (v := 36) (by decide +kernel) ?_
  refine va_newa (D := G.1) (atype := .int) (ty := .int) hx hb (hts _ acl_I) rfl hK hP hD hS hA (n := 36) (N' := 36) (a0 := (36, .inl (fun _ => 0))) (fun _ => rfl) (by decide +kernel) (by decide +kernel) (by decide +kernel) (Nat.le_of_ble_eq_true rfl) (Nat.le_of_ble_eq_true rfl) dX6_init_23 (fun q1 cA H hKn hP hD hS => ?_)
  obtain rfl : cA = G.2 0 := g5_cI hKn
  refine g5_rs [(a0, .inr (6, [.int 6, .int 6, .null, .int 0])), (q1, (arI G 36 (fun _ => 0)))] hP hD ?_
  clear hP hD
  intro hP hD
  refine W.widen (k := 1) (n := 36) (Nat.le_of_ble_eq_true rfl) (Nat.le_of_ble_eq_true rfl) ?_
  refine va_putF (D := G.1) (ci := 6) (v := .ref q1) (ty := .array .int) (C := RX6) (T := TX6) (N := 4) hx hb hts inG_X6 tyX6 tyX6_ok nmX6 hown hK hP hD hS 0 rfl rfl 2 (by decide +kernel) (hts _ fl_X6_21) (fun _ h9 => h9) rfl hin rfl (by decide +kernel) rfl rfl (Nat.le_of_ble_eq_true rfl) dX6_init_25 ?_
  clear hP hD hS
  intro H locs hP hD hS
  refine g5_rs [(a0, (oc6 6 6 q1 0)), (q1, (arI G 36 (fun _ => 0)))] hP hD ?_
  clear hP hD
  intro hP hD
  exact W.vret hx hb hr (fun t ht hW => ⟨⟨[(a0, (oc6 6 6 q1 0)), (q1, (arI G 36 (fun _ => 0)))], rfl, ⟨q1, rfl⟩, by rw [ht]; exact hP, hD⟩, hS.F ht⟩) hS.2.2 dX6_init_28
theorem dgX1_init_0 : ∀ r ∈ ([(0, (.aload_n 0, 1)), (1, (.invokespecial 3, 3)), (4, (.aload_n 0, 1)), (5, (.lconst 0, 1)), (6, (.putfield 9, 3)), (9, (.aload_n 0, 1)), (10, (.sipush 1000, 3)), (13, (.putfield 15, 3)), (16, (.aload_n 0, 1)), (17, (.iconst (-1), 1)), (18, (.putfield 19, 3)), (21, (.aload_n 0, 1)), (22, (.iconst (-1), 1)), (23, (.putfield 22, 3)), (26, (.aload_n 0, 1)), (27, (.iconst 0, 1)), (28, (.putfield 25, 3)), (31, (.aload_n 0, 1)), (32, (.bipush 6, 2)), (34, (.anewarray 28, 3)), (37, (.putfield 30, 3)), (40, (.aload_n 0, 1)), (41, (.new 34, 3)), (44, (.dup, 1)), (45, (.bipush 6, 2)), (47, (.iconst 5, 1)), (48, (.invokespecial 36, 3)), (51, (.putfield 39, 3)), (54, (.aload_n 0, 1)), (55, (.new 34, 3)), (58, (.dup, 1)), (59, (.iconst 5, 1)), (60, (.bipush 24, 2)), (62, (.invokespecial 36, 3)), (65, (.putfield 43, 3)), (68, (.aload_n 0, 1)), (69, (.new 34, 3)), (72, (.dup, 1)), (73, (.bipush 10, 2)), (75, (.iconst 4, 1))] : List (Nat × (Instr × Nat))), decode cX1_init r.1 = .ok r.2 := by decide +kernel
theorem dX1_init_0 : decode cX1_init 0 = .ok (.aload_n 0, 1) := dgX1_init_0 (0, (.aload_n 0, 1)) (List.mem_of_getElem? (i := 0) rfl)
theorem dX1_init_1 : decode cX1_init 1 = .ok (.invokespecial 3, 3) := dgX1_init_0 (1, (.invokespecial 3, 3)) (List.mem_of_getElem? (i := 1) rfl)
theorem dX1_init_4 : decode cX1_init 4 = .ok (.aload_n 0, 1) := dgX1_init_0 (4, (.aload_n 0, 1)) (List.mem_of_getElem? (i := 2) rfl)
theorem dX1_init_5 : decode cX1_init 5 = .ok (.lconst 0, 1) := dgX1_init_0 (5, (.lconst 0, 1)) (List.mem_of_getElem? (i := 3) rfl)
theorem dX1_init_6 : decode cX1_init 6 = .ok (.putfield 9, 3) := dgX1_init_0 (6, (.putfield 9, 3)) (List.mem_of_getElem? (i := 4) rfl)
theorem dX1_init_9 : decode cX1_init 9 = .ok (.aload_n 0, 1) := dgX1_init_0 (9, (.aload_n 0, 1)) (List.mem_of_getElem? (i := 5) rfl)
theorem dX1_init_10 : decode cX1_init 10 = .ok (.sipush 1000, 3) := dgX1_init_0 (10, (.sipush 1000, 3)) (List.mem_of_getElem? (i := 6) rfl)
theorem dX1_init_13 : decode cX1_init 13 = .ok (.putfield 15, 3) := dgX1_init_0 (13, (.putfield 15, 3)) (List.mem_of_getElem? (i := 7) rfl)
theorem dX1_init_16 : decode cX1_init 16 = .ok (.aload_n 0, 1) := dgX1_init_0 (16, (.aload_n 0, 1)) (List.mem_of_getElem? (i := 8) rfl)
theorem dX1_init_17 : decode cX1_init 17 = .ok (.iconst (-1), 1) := dgX1_init_0 (17, (.iconst (-1), 1)) (List.mem_of_getElem? (i := 9) rfl)
theorem dX1_init_18 : decode cX1_init 18 = .ok (.putfield 19, 3) := dgX1_init_0 (18, (.putfield 19, 3)) (List.mem_of_getElem? (i := 10) rfl)
theorem dX1_init_21 : decode cX1_init 21 = .ok (.aload_n 0, 1) := dgX1_init_0 (21, (.aload_n 0, 1)) (List.mem_of_getElem? (i := 11) rfl)
theorem dX1_init_22 : decode cX1_init 22 = .ok (.iconst (-1), 1) := dgX1_init_0 (22, (.iconst (-1), 1)) (List.mem_of_getElem? (i := 12) rfl)
theorem dX1_init_23 : decode cX1_init 23 = .ok (.putfield 22, 3) := dgX1_init_0 (23, (.putfield 22, 3)) (List.mem_of_getElem? (i := 13) rfl)
theorem dX1_init_26 : decode cX1_init 26 = .ok (.aload_n 0, 1) := dgX1_init_0 (26, (.aload_n 0, 1)) (List.mem_of_getElem? (i := 14) rfl)
theorem dX1_init_27 : decode cX1_init 27 = .ok (.iconst 0, 1) := dgX1_init_0 (27, (.iconst 0, 1)) (List.mem_of_getElem? (i := 15) rfl)
theorem dX1_init_28 : decode cX1_init 28 = .ok (.putfield 25, 3) := dgX1_init_0 (28, (.putfield 25, 3)) (List.mem_of_getElem? (i := 16) rfl)
theorem dX1_init_31 : decode cX1_init 31 = .ok (.aload_n 0, 1) := dgX1_init_0 (31, (.aload_n 0, 1)) (List.mem_of_getElem? (i := 17) rfl)
theorem dX1_init_32 : decode cX1_init 32 = .ok (.bipush 6, 2) := dgX1_init_0 (32, (.bipush 6, 2)) (List.mem_of_getElem? (i := 18) rfl)
theorem dX1_init_34 : decode cX1_init 34 = .ok (.anewarray 28, 3) := dgX1_init_0 (34, (.anewarray 28, 3)) (List.mem_of_getElem? (i := 19) rfl)
theorem dX1_init_37 : decode cX1_init 37 = .ok (.putfield 30, 3) := dgX1_init_0 (37, (.putfield 30, 3)) (List.mem_of_getElem? (i := 20) rfl)
theorem dX1_init_40 : decode cX1_init 40 = .ok (.aload_n 0, 1) := dgX1_init_0 (40, (.aload_n 0, 1)) (List.mem_of_getElem? (i := 21) rfl)
theorem dX1_init_41 : decode cX1_init 41 = .ok (.new 34, 3) := dgX1_init_0 (41, (.new 34, 3)) (List.mem_of_getElem? (i := 22) rfl)
theorem dX1_init_44 : decode cX1_init 44 = .ok (.dup, 1) := dgX1_init_0 (44, (.dup, 1)) (List.mem_of_getElem? (i := 23) rfl)
theorem dX1_init_45 : decode cX1_init 45 = .ok (.bipush 6, 2) := dgX1_init_0 (45, (.bipush 6, 2)) (List.mem_of_getElem? (i := 24) rfl)
theorem dX1_init_47 : decode cX1_init 47 = .ok (.iconst 5, 1) := dgX1_init_0 (47, (.iconst 5, 1)) (List.mem_of_getElem? (i := 25) rfl)
theorem dX1_init_48 : decode cX1_init 48 = .ok (.invokespecial 36, 3) := dgX1_init_0 (48, (.invokespecial 36, 3)) (List.mem_of_getElem? (i := 26) rfl)
theorem dX1_init_51 : decode cX1_init 51 = .ok (.putfield 39, 3) := dgX1_init_0 (51, (.putfield 39, 3)) (List.mem_of_getElem? (i := 27) rfl)
theorem dX1_init_54 : decode cX1_init 54 = .ok (.aload_n 0, 1) := dgX1_init_0 (54, (.aload_n 0, 1)) (List.mem_of_getElem? (i := 28) rfl)
theorem dX1_init_55 : decode cX1_init 55 = .ok (.new 34, 3) := dgX1_init_0 (55, (.new 34, 3)) (List.mem_of_getElem? (i := 29) rfl)
theorem dX1_init_58 : decode cX1_init 58 = .ok (.dup, 1) := dgX1_init_0 (58, (.dup, 1)) (List.mem_of_getElem? (i := 30) rfl)
theorem dX1_init_59 : decode cX1_init 59 = .ok (.iconst 5, 1) := dgX1_init_0 (59, (.iconst 5, 1)) (List.mem_of_getElem? (i := 31) rfl)
theorem dX1_init_60 : decode cX1_init 60 = .ok (.bipush 24, 2) := dgX1_init_0 (60, (.bipush 24, 2)) (List.mem_of_getElem? (i := 32) rfl)
theorem dX1_init_62 : decode cX1_init 62 = .ok (.invokespecial 36, 3) := dgX1_init_0 (62, (.invokespecial 36, 3)) (List.mem_of_getElem? (i := 33) rfl)
theorem dX1_init_65 : decode cX1_init 65 = .ok (.putfield 43, 3) := dgX1_init_0 (65, (.putfield 43, 3)) (List.mem_of_getElem? (i := 34) rfl)
theorem dX1_init_68 : decode cX1_init 68 = .ok (.aload_n 0, 1) := dgX1_init_0 (68, (.aload_n 0, 1)) (List.mem_of_getElem? (i := 35) rfl)
theorem dX1_init_69 : decode cX1_init 69 = .ok (.new 34, 3) := dgX1_init_0 (69, (.new 34, 3)) (List.mem_of_getElem? (i := 36) rfl)
theorem dX1_init_72 : decode cX1_init 72 = .ok (.dup, 1) := dgX1_init_0 (72, (.dup, 1)) (List.mem_of_getElem? (i := 37) rfl)
theorem dX1_init_73 : decode cX1_init 73 = .ok (.bipush 10, 2) := dgX1_init_0 (73, (.bipush 10, 2)) (List.mem_of_getElem? (i := 38) rfl)
theorem dX1_init_75 : decode cX1_init 75 = .ok (.iconst 4, 1) := dgX1_init_0 (75, (.iconst 4, 1)) (List.mem_of_getElem? (i := 39) rfl)
theorem dgX1_init_1 : ∀ r ∈ ([(76, (.invokespecial 36, 3)), (79, (.putfield 46, 3)), (82, (.aload_n 0, 1)), (83, (.new 34, 3)), (86, (.dup, 1)), (87, (.bipush 8, 2)), (89, (.iconst 5, 1)), (90, (.invokespecial 36, 3)), (93, (.putfield 49, 3)), (96, (.aload_n 0, 1)), (97, (.new 34, 3)), (100, (.dup, 1)), (101, (.bipush 6, 2)), (103, (.bipush 6, 2)), (105, (.invokespecial 36, 3)), (108, (.putfield 52, 3)), (111, (.aload_n 0, 1)), (112, (.lconst 0, 1)), (113, (.putfield 55, 3)), (116, (.aload_n 0, 1)), (117, (.bipush 24, 2)), (119, (.newarray .long, 2)), (121, (.putfield 58, 3)), (124, (.return_, 1))] : List (Nat × (Instr × Nat))), decode cX1_init r.1 = .ok r.2 := by decide +kernel
theorem dX1_init_76 : decode cX1_init 76 = .ok (.invokespecial 36, 3) := dgX1_init_1 (76, (.invokespecial 36, 3)) (List.mem_of_getElem? (i := 0) rfl)
theorem dX1_init_79 : decode cX1_init 79 = .ok (.putfield 46, 3) := dgX1_init_1 (79, (.putfield 46, 3)) (List.mem_of_getElem? (i := 1) rfl)
theorem dX1_init_82 : decode cX1_init 82 = .ok (.aload_n 0, 1) := dgX1_init_1 (82, (.aload_n 0, 1)) (List.mem_of_getElem? (i := 2) rfl)
theorem dX1_init_83 : decode cX1_init 83 = .ok (.new 34, 3) := dgX1_init_1 (83, (.new 34, 3)) (List.mem_of_getElem? (i := 3) rfl)
theorem dX1_init_86 : decode cX1_init 86 = .ok (.dup, 1) := dgX1_init_1 (86, (.dup, 1)) (List.mem_of_getElem? (i := 4) rfl)
theorem dX1_init_87 : decode cX1_init 87 = .ok (.bipush 8, 2) := dgX1_init_1 (87, (.bipush 8, 2)) (List.mem_of_getElem? (i := 5) rfl)
theorem dX1_init_89 : decode cX1_init 89 = .ok (.iconst 5, 1) := dgX1_init_1 (89, (.iconst 5, 1)) (List.mem_of_getElem? (i := 6) rfl)
theorem dX1_init_90 : decode cX1_init 90 = .ok (.invokespecial 36, 3) := dgX1_init_1 (90, (.invokespecial 36, 3)) (List.mem_of_getElem? (i := 7) rfl)
theorem dX1_init_93 : decode cX1_init 93 = .ok (.putfield 49, 3) := dgX1_init_1 (93, (.putfield 49, 3)) (List.mem_of_getElem? (i := 8) rfl)
theorem dX1_init_96 : decode cX1_init 96 = .ok (.aload_n 0, 1) := dgX1_init_1 (96, (.aload_n 0, 1)) (List.mem_of_getElem? (i := 9) rfl)
theorem dX1_init_97 : decode cX1_init 97 = .ok (.new 34, 3) := dgX1_init_1 (97, (.new 34, 3)) (List.mem_of_getElem? (i := 10) rfl)
theorem dX1_init_100 : decode cX1_init 100 = .ok (.dup, 1) := dgX1_init_1 (100, (.dup, 1)) (List.mem_of_getElem? (i := 11) rfl)
theorem dX1_init_101 : decode cX1_init 101 = .ok (.bipush 6, 2) := dgX1_init_1 (101, (.bipush 6, 2)) (List.mem_of_getElem? (i := 12) rfl)
theorem dX1_init_103 : decode cX1_init 103 = .ok (.bipush 6, 2) := dgX1_init_1 (103, (.bipush 6, 2)) (List.mem_of_getElem? (i := 13) rfl)
theorem dX1_init_105 : decode cX1_init 105 = .ok (.invokespecial 36, 3) := dgX1_init_1 (105, (.invokespecial 36, 3)) (List.mem_of_getElem? (i := 14) rfl)
theorem dX1_init_108 : decode cX1_init 108 = .ok (.putfield 52, 3) := dgX1_init_1 (108, (.putfield 52, 3)) (List.mem_of_getElem? (i := 15) rfl)
theorem dX1_init_111 : decode cX1_init 111 = .ok (.aload_n 0, 1) := dgX1_init_1 (111, (.aload_n 0, 1)) (List.mem_of_getElem? (i := 16) rfl)
theorem dX1_init_112 : decode cX1_init 112 = .ok (.lconst 0, 1) := dgX1_init_1 (112, (.lconst 0, 1)) (List.mem_of_getElem? (i := 17) rfl)
theorem dX1_init_113 : decode cX1_init 113 = .ok (.putfield 55, 3) := dgX1_init_1 (113, (.putfield 55, 3)) (List.mem_of_getElem? (i := 18) rfl)
theorem dX1_init_116 : decode cX1_init 116 = .ok (.aload_n 0, 1) := dgX1_init_1 (116, (.aload_n 0, 1)) (List.mem_of_getElem? (i := 19) rfl)
theorem dX1_init_117 : decode cX1_init 117 = .ok (.bipush 24, 2) := dgX1_init_1 (117, (.bipush 24, 2)) (List.mem_of_getElem? (i := 20) rfl)
theorem dX1_init_119 : decode cX1_init 119 = .ok (.newarray .long, 2) := dgX1_init_1 (119, (.newarray .long, 2)) (List.mem_of_getElem? (i := 21) rfl)
theorem dX1_init_121 : decode cX1_init 121 = .ok (.putfield 58, 3) := dgX1_init_1 (121, (.putfield 58, 3)) (List.mem_of_getElem? (i := 22) rfl)
theorem dX1_init_124 : decode cX1_init 124 = .ok (.return_, 1) := dgX1_init_1 (124, (.return_, 1)) (List.mem_of_getElem? (i := 23) rfl)
set_option maxHeartbeats 4000000 in
set_option maxRecDepth 100000 in
theorem kX1_init (l : Launch) (G : g5_G) (a0 : Nat) (sz : Nat) : Met l yX1_init (wsG yX1_init cX1_init 1 none) ({ frames := 2, cells := 12, slots := 316, locals := 34 }) (va_Pc [.ref a0] (g5_P G [(a0, .inr (1, [.long 0, .int 0, .int 0, .int 0, .int 0, .null, .null, .null, .null, .null, .null, .long 0, .null]))] sz)) (va_Qv (fun (u : va_W) => (∃ (q1 : Nat) (q2 : Nat) (q3 : Nat) (q4 : Nat) (q5 : Nat) (q6 : Nat) (q7 : Nat) (q8 : Nat) (q9 : Nat) (q10 : Nat) (q11 : Nat) (q12 : Nat), (u = [(a0, (oc1 0 1000 (-1) (-1) 0 q1 q2 q4 q6 q8 q10 0 q12)), (q1, (arW G 6 (fun _ => none))), (q2, (oc6 6 5 q3 0)), (q3, (arI G 30 (fun _ => 0))), (q4, (oc6 5 24 q5 0)), (q5, (arI G 120 (fun _ => 0))), (q6, (oc6 10 4 q7 0)), (q7, (arI G 40 (fun _ => 0))), (q8, (oc6 8 5 q9 0)), (q9, (arI G 40 (fun _ => 0))), (q10, (oc6 6 6 q11 0)), (q11, (arI G 36 (fun _ => 0))), (q12, (arJ G 24 (fun _ => 0)))]))) (g5_B G (va_A [(a0, .inr (1, [.long 0, .int 0, .int 0, .int 0, .int 0, .null, .null, .null, .null, .null, .null, .long 0, .null]))] sz)) (va_A [(a0, .inr (1, [.long 0, .int 0, .int 0, .int 0, .int 0, .null, .null, .null, .null, .null, .null, .long 0, .null]))] sz)) 12 316 (va_A [(a0, .inr (1, [.long 0, .int 0, .int 0, .int 0, .int 0, .null, .null, .null, .null, .null, .null, .long 0, .null]))] sz) := by
  refine Met.ofW (cc := cX1_init) (maxL := 1) (ret := none) (by decide +kernel) rfl ?_
  intro p e s m args below meth c s₁ B hml hv
  obtain ⟨rfl, hsz, hP, hK, hD0, hN, hT⟩ := hv
  have hx := B.exec
  have hb := B.bytes
  have hr := B.returns
  have hts : ∀ w ∈ tblG, w.before _ s = true := fun w h => atoms_spec (ws := (wsG yX1_init cX1_init 1 none)) B.pre w (List.mem_cons_of_mem _ h)
  have hown : s.vm.findClass RX1 = some m.cls := findClass_of_methodNamed B.named
  have hlocks := B.notSynchronized
  have hin : meth.name = "<init>" := (name_of_methodNamed B.named B.method).1
  subst hsz
  have hD := hD0.self (sz := s.heap.size)
  generalize hAe : va_A [(a0, .inr (1, [.long 0, .int 0, .int 0, .int 0, .int 0, .null, .null, .null, .null, .null, .null, .long 0, .null]))] s.heap.size = A at hD hT ⊢
  have hA : ∀ q : Nat, s.heap.size ≤ q → A q := fun q h => by rw [← hAe]; exact Or.inr h
  have hS : va_S A s.heap s.heap [] := va_S.rf
  replace hP : va_P G.1 vwCl [(a0, .inr (1, [.long 0, .int 0, .int 0, .int 0, .int 0, .null, .null, .null, .null, .null, .null, .long 0, .null]))] s.heap := hP
  have hl := lv_entry ([.ref a0]) (n := 1) (Nat.le_of_ble_eq_true rfl)
  rw [lg_entry_eq]
  generalize (lg_sl ([.ref a0]) ++ List.replicate (1 - (lg_sl ([.ref a0])).length) Slot.unset).toArray = ls at hl ⊢
  replace hl : lv_has ls 1 [(0, .ref a0)] := hl
  refine lv_aload_n hx hb dX1_init_0 rfl (lv_at hl 0 rfl) ?_
  refine W.objInit hx hb hown (hts _ oi_X1_3) (hts _ oi_im) (hts _ oi_cd) rfl (by rw [hml]; exact hl.1) rfl dX1_init_1 (Nat.le_of_ble_eq_true rfl) (Nat.le_of_ble_eq_true rfl) ?_
  refine W.eq (g2 := F0 m 4 ls []) rfl ?_
  refine lv_aload_n hx hb dX1_init_4 rfl (lv_at hl 0 rfl) ?_
  refine lv_lconst (v := 0) hx hb dX1_init_5 (by decide +kernel) ?_
  refine W.eq (g2 := F0 m 6 ls [.long 0, .ref a0]) rfl ?_
  refine va_put (D := G.1) (ci := 1) (v := .long 0) (ty := .long) (C := RX1) (T := TX1) (N := 13) hx hb hts inG_X1 tyX1 tyX1_ok nmX1 hown hK hP hD hS 0 rfl rfl 0 (by decide +kernel) (hts _ fl_X1_9) (fun _ h9 => h9) rfl (by decide +kernel) rfl rfl (Nat.le_of_ble_eq_true rfl) dX1_init_6 ?_
  clear hP hD hS
  intro H locs hP hD hS
  refine g5_rs [(a0, .inr (1, [.long 0, .int 0, .int 0, .int 0, .int 0, .null, .null, .null, .null, .null, .null, .long 0, .null]))] hP hD ?_
  clear hP hD
  intro hP hD
  refine lv_aload_n hx hb dX1_init_9 rfl (lv_at hl 0 rfl) ?_
  refine lv_sipush (v := 1000) hx hb dX1_init_10 (by decide +kernel) ?_
  refine va_put (D := G.1) (ci := 1) (v := .int 1000) (ty := .int) (C := RX1) (T := TX1) (N := 13) hx hb hts inG_X1 tyX1 tyX1_ok nmX1 hown hK hP hD hS 0 rfl rfl 1 (by decide +kernel) (hts _ fl_X1_15) (fun _ h9 => h9) rfl (by decide +kernel) rfl rfl (Nat.le_of_ble_eq_true rfl) dX1_init_13 ?_
  clear hP hD hS
  intro H locs hP hD hS
  refine g5_rs [(a0, .inr (1, [.long 0, .int 1000, .int 0, .int 0, .int 0, .null, .null, .null, .null, .null, .null, .long 0, .null]))] hP hD ?_
  clear hP hD
  intro hP hD
  refine lv_aload_n hx hb dX1_init_16 rfl (lv_at hl 0 rfl) ?_
  refine W.eq (g2 := F0 m 17 ls [.ref a0]) rfl ?_
  refine lv_iconst (v := (-1)) hx hb dX1_init_17 (by decide +kernel) ?_
  refine va_put (D := G.1) (ci := 1) (v := .int (-1)) (ty := .int) (C := RX1) (T := TX1) (N := 13) hx hb hts inG_X1 tyX1 tyX1_ok nmX1 hown hK hP hD hS 0 rfl rfl 2 (by decide +kernel) (hts _ fl_X1_19) (fun _ h9 => h9) rfl (by decide +kernel) rfl rfl (Nat.le_of_ble_eq_true rfl) dX1_init_18 ?_
  clear hP hD hS
  intro H locs hP hD hS
  refine g5_rs [(a0, .inr (1, [.long 0, .int 1000, .int (-1), .int 0, .int 0, .null, .null, .null, .null, .null, .null, .long 0, .null]))] hP hD ?_
  clear hP hD
  intro hP hD
  refine lv_aload_n hx hb dX1_init_21 rfl (lv_at hl 0 rfl) ?_
  refine lv_iconst (v := (-1)) hx hb dX1_init_22 (by decide +kernel) ?_
  refine va_put (D := G.1) (ci := 1) (v := .int (-1)) (ty := .int) (C := RX1) (T := TX1) (N := 13) hx hb hts inG_X1 tyX1 tyX1_ok nmX1 hown hK hP hD hS 0 rfl rfl 3 (by decide +kernel) (hts _ fl_X1_22) (fun _ h9 => h9) rfl (by decide +kernel) rfl rfl (Nat.le_of_ble_eq_true rfl) dX1_init_23 ?_
  clear hP hD hS
  intro H locs hP hD hS
  refine g5_rs [(a0, .inr (1, [.long 0, .int 1000, .int (-1), .int (-1), .int 0, .null, .null, .null, .null, .null, .null, .long 0, .null]))] hP hD ?_
  clear hP hD
  intro hP hD
  refine W.eq (g2 := F0 m 26 ls []) rfl ?_
  refine lv_aload_n hx hb dX1_init_26 rfl (lv_at hl 0 rfl) ?_
  refine lv_iconst (v := 0) hx hb dX1_init_27 (by decide +kernel) ?_
  refine va_put (D := G.1) (ci := 1) (v := .int 0) (ty := .int) (C := RX1) (T := TX1) (N := 13) hx hb hts inG_X1 tyX1 tyX1_ok nmX1 hown hK hP hD hS 0 rfl rfl 4 (by decide +kernel) (hts _ fl_X1_25) (fun _ h9 => h9) rfl (by decide +kernel) rfl rfl (Nat.le_of_ble_eq_true rfl) dX1_init_28 ?_
  clear hP hD hS
  intro H locs hP hD hS
  refine g5_rs [(a0, .inr (1, [.long 0, .int 1000, .int (-1), .int (-1), .int 0, .null, .null, .null, .null, .null, .null, .long 0, .null]))] hP hD ?_
  clear hP hD
  intro hP hD
  refine lv_aload_n hx hb dX1_init_31 rfl (lv_at hl 0 rfl) ?_
  refine lv_bipush (v := 6) hx hb dX1_init_32 (by decide +kernel) ?_
  refine W.eq (g2 := F0 m 34 ls [.int 6, .ref a0]) rfl ?_
  refine va_newq (D := G.1) hx hb hown (hts _ cl_X1_28) hN.2.2.1 hK hP hD hS hA (n := 6) (N' := 6) (by decide +kernel) (by decide +kernel) (by decide +kernel) (Nat.le_of_ble_eq_true rfl) (Nat.le_of_ble_eq_true rfl) dX1_init_34 (fun q1 cA H hKn hP hD hS => ?_)
  obtain rfl : cA = G.2 4 := g5_cW hKn
  refine g5_rs [(a0, .inr (1, [.long 0, .int 1000, .int (-1), .int (-1), .int 0, .null, .null, .null, .null, .null, .null, .long 0, .null])), (q1, (arW G 6 (fun _ => none)))] hP hD ?_
  clear hP hD
  intro hP hD
  refine W.widen (k := 1) (n := 6) (Nat.le_of_ble_eq_true rfl) (Nat.le_of_ble_eq_true rfl) ?_
  refine va_putF (D := G.1) (ci := 1) (v := .ref q1) (ty := .array (.object "LateGlass$Law")) (C := RX1) (T := TX1) (N := 13) hx hb hts inG_X1 tyX1 tyX1_ok nmX1 hown hK hP hD hS 0 rfl rfl 5 (by decide +kernel) (hts _ fl_X1_30) (fun _ h9 => h9) rfl hin rfl (by decide +kernel) rfl rfl (Nat.le_of_ble_eq_true rfl) dX1_init_37 ?_
  clear hP hD hS
  intro H locs hP hD hS
  refine g5_rs [(a0, .inr (1, [.long 0, .int 1000, .int (-1), .int (-1), .int 0, .ref q1, .null, .null, .null, .null, .null, .long 0, .null])), (q1, (arW G 6 (fun _ => none)))] hP hD ?_
  clear hP hD
  intro hP hD
  refine lv_aload_n hx hb dX1_init_40 rfl (lv_at hl 0 rfl) ?_
  refine va_new (D := G.1) (ci := 6) (fs := [.int 0, .int 0, .null, .int 0]) (C := RX6) (T := TX6) (N := 4) hx hb hts inG_X6 tyX6 tyX6_ok hown (hts _ cl_X1_34) (hts _ isn_X6) (hts _ ini_X6) hK hP hD hS hA rfl (fun j hj => by rcases (show j = 0 ∨ j = 1 ∨ j = 2 ∨ j = 3 by omega) with rfl | rfl | rfl | rfl <;> rfl) (Nat.le_of_ble_eq_true rfl) (Nat.le_of_ble_eq_true rfl) dX1_init_41 (fun q2 H hP hD hS => ?_)
  refine g5_rs [(a0, .inr (1, [.long 0, .int 1000, .int (-1), .int (-1), .int 0, .ref q1, .null, .null, .null, .null, .null, .long 0, .null])), (q1, (arW G 6 (fun _ => none))), (q2, .inr (6, [.int 0, .int 0, .null, .int 0]))] hP hD ?_
  clear hP hD
  intro hP hD
  refine W.widen (k := 2) (n := 10) (Nat.le_of_ble_eq_true rfl) (Nat.le_of_ble_eq_true rfl) ?_
  refine lv_dup hx hb dX1_init_44 rfl ?_
  refine W.eq (g2 := F0 m 45 ls [.ref q2, .ref q2, .ref a0]) rfl ?_
  refine lv_bipush (v := 6) hx hb dX1_init_45 (by decide +kernel) ?_
  refine lv_iconst (v := 5) hx hb dX1_init_47 (by decide +kernel) ?_
  obtain ⟨hPc, hDc, hFc⟩ := g5_sub3 (wc := [(q2, .inr (6, [.int 0, .int 0, .null, .int 0]))]) hP hD hS hA [2] (by decide +kernel) rfl
  refine va_callv (va_runI (As := [.int 6, .int 5]) (rest := [.ref q2, .ref a0]) ⟨hx, hb, hml, hown, hts⟩ (kX6_init l G q2 H.size) (cwI 2 hts gW_X6_init rfl rfl rfl (hts _ ini_X6) (hts _ ml_X1_36) (hts _ im_X6_init) rfl hs_X6_init ⟨Nat.le_of_ble_eq_true rfl, Nat.le_of_ble_eq_true rfl⟩) (g5_preS hPc hK hDc hN hT hS hFc) rfl rfl hl.1 rfl (lv_room (Nat.le_of_ble_eq_true rfl)) dX1_init_48 ⟨Nat.le_of_ble_eq_true rfl, Nat.le_of_ble_eq_true rfl⟩) hS (fun q _ h => hFc q h) hFc (fun u t H locs ht hvm hw hB hz1 hk1 hS => ?_)
  obtain ⟨hP1, hD1⟩ := hB
  have hP1 := g5_ht ht hP1
  refine W.widen (k := 3) (n := 40) (Nat.le_of_ble_eq_true rfl) (Nat.le_of_ble_eq_true rfl) ?_
  obtain ⟨q3, rfl⟩ := hw
  have hJ9 := va_join (wr := [(a0, .inr (1, [.long 0, .int 1000, .int (-1), .int (-1), .int 0, .ref q1, .null, .null, .null, .null, .null, .long 0, .null])), (q1, (arW G 6 (fun _ => none)))]) hP hD [2] [0, 1] rfl rfl (by decide +kernel) (by decide +kernel) hk1 hFc hP1 hD1
  clear hP hD hPc hDc hFc ht hvm hz1 hk1 hP1 hD1
  obtain ⟨hP, hD⟩ := hJ9
  refine g5_rs [(a0, .inr (1, [.long 0, .int 1000, .int (-1), .int (-1), .int 0, .ref q1, .null, .null, .null, .null, .null, .long 0, .null])), (q1, (arW G 6 (fun _ => none))), (q2, (oc6 6 5 q3 0)), (q3, (arI G 30 (fun _ => 0)))] hP hD ?_
  clear hP hD
  intro hP hD
  refine va_putF (D := G.1) (ci := 1) (v := .ref q2) (ty := .object "LateGlass$Table") (C := RX1) (T := TX1) (N := 13) hx hb hts inG_X1 tyX1 tyX1_ok nmX1 hown hK hP hD hS 0 rfl rfl 6 (by decide +kernel) (hts _ fl_X1_39) (fun _ h9 => h9) rfl hin rfl (by decide +kernel) rfl rfl (Nat.le_of_ble_eq_true rfl) dX1_init_51 ?_
  clear hP hD hS
  intro H locs hP hD hS
  refine g5_rs [(a0, .inr (1, [.long 0, .int 1000, .int (-1), .int (-1), .int 0, .ref q1, .ref q2, .null, .null, .null, .null, .long 0, .null])), (q1, (arW G 6 (fun _ => none))), (q2, (oc6 6 5 q3 0)), (q3, (arI G 30 (fun _ => 0)))] hP hD ?_
  clear hP hD
  intro hP hD
  refine lv_aload_n hx hb dX1_init_54 rfl (lv_at hl 0 rfl) ?_
  refine W.eq (g2 := F0 m 55 ls [.ref a0]) rfl ?_
  refine va_new (D := G.1) (ci := 6) (fs := [.int 0, .int 0, .null, .int 0]) (C := RX6) (T := TX6) (N := 4) hx hb hts inG_X6 tyX6 tyX6_ok hown (hts _ cl_X1_34) (hts _ isn_X6) (hts _ ini_X6) hK hP hD hS hA rfl (fun j hj => by rcases (show j = 0 ∨ j = 1 ∨ j = 2 ∨ j = 3 by omega) with rfl | rfl | rfl | rfl <;> rfl) (Nat.le_of_ble_eq_true rfl) (Nat.le_of_ble_eq_true rfl) dX1_init_55 (fun q4 H hP hD hS => ?_)
  refine g5_rs [(a0, .inr (1, [.long 0, .int 1000, .int (-1), .int (-1), .int 0, .ref q1, .ref q2, .null, .null, .null, .null, .long 0, .null])), (q1, (arW G 6 (fun _ => none))), (q2, (oc6 6 5 q3 0)), (q3, (arI G 30 (fun _ => 0))), (q4, .inr (6, [.int 0, .int 0, .null, .int 0]))] hP hD ?_
  clear hP hD
  intro hP hD
  refine W.widen (k := 4) (n := 44) (Nat.le_of_ble_eq_true rfl) (Nat.le_of_ble_eq_true rfl) ?_
  refine lv_dup hx hb dX1_init_58 rfl ?_
  refine lv_iconst (v := 5) hx hb dX1_init_59 (by decide +kernel) ?_
  refine lv_bipush (v := 24) hx hb dX1_init_60 (by decide +kernel) ?_
  obtain ⟨hPc, hDc, hFc⟩ := g5_sub3 (wc := [(q4, .inr (6, [.int 0, .int 0, .null, .int 0]))]) hP hD hS hA [4] (by decide +kernel) rfl
  refine va_callv (va_runI (As := [.int 5, .int 24]) (rest := [.ref q4, .ref a0]) ⟨hx, hb, hml, hown, hts⟩ (kX6_init_2 l G q4 H.size) (cwI 2 hts gW_X6_init rfl rfl rfl (hts _ ini_X6) (hts _ ml_X1_36) (hts _ im_X6_init) rfl hs_X6_init ⟨Nat.le_of_ble_eq_true rfl, Nat.le_of_ble_eq_true rfl⟩) (g5_preS hPc hK hDc hN hT hS hFc) rfl rfl hl.1 rfl (lv_room (Nat.le_of_ble_eq_true rfl)) dX1_init_62 ⟨Nat.le_of_ble_eq_true rfl, Nat.le_of_ble_eq_true rfl⟩) hS (fun q _ h => hFc q h) hFc (fun u t H locs ht hvm hw hB hz1 hk1 hS => ?_)
  obtain ⟨hP1, hD1⟩ := hB
  have hP1 := g5_ht ht hP1
  refine W.widen (k := 5) (n := 164) (Nat.le_of_ble_eq_true rfl) (Nat.le_of_ble_eq_true rfl) ?_
  obtain ⟨q5, rfl⟩ := hw
  have hJ9 := va_join (wr := [(a0, .inr (1, [.long 0, .int 1000, .int (-1), .int (-1), .int 0, .ref q1, .ref q2, .null, .null, .null, .null, .long 0, .null])), (q1, (arW G 6 (fun _ => none))), (q2, (oc6 6 5 q3 0)), (q3, (arI G 30 (fun _ => 0)))]) hP hD [4] [0, 1, 2, 3] rfl rfl (by decide +kernel) (by decide +kernel) hk1 hFc hP1 hD1
  clear hP hD hPc hDc hFc ht hvm hz1 hk1 hP1 hD1
  obtain ⟨hP, hD⟩ := hJ9
  refine g5_rs [(a0, .inr (1, [.long 0, .int 1000, .int (-1), .int (-1), .int 0, .ref q1, .ref q2, .null, .null, .null, .null, .long 0, .null])), (q1, (arW G 6 (fun _ => none))), (q2, (oc6 6 5 q3 0)), (q3, (arI G 30 (fun _ => 0))), (q4, (oc6 5 24 q5 0)), (q5, (arI G 120 (fun _ => 0)))] hP hD ?_
  clear hP hD
  intro hP hD
  refine W.eq (g2 := F0 m 65 ls [.ref q4, .ref a0]) rfl ?_
  refine va_putF (D := G.1) (ci := 1) (v := .ref q4) (ty := .object "LateGlass$Table") (C := RX1) (T := TX1) (N := 13) hx hb hts inG_X1 tyX1 tyX1_ok nmX1 hown hK hP hD hS 0 rfl rfl 7 (by decide +kernel) (hts _ fl_X1_43) (fun _ h9 => h9) rfl hin rfl (by decide +kernel) rfl rfl (Nat.le_of_ble_eq_true rfl) dX1_init_65 ?_
  clear hP hD hS
  intro H locs hP hD hS
  refine g5_rs [(a0, .inr (1, [.long 0, .int 1000, .int (-1), .int (-1), .int 0, .ref q1, .ref q2, .ref q4, .null, .null, .null, .long 0, .null])), (q1, (arW G 6 (fun _ => none))), (q2, (oc6 6 5 q3 0)), (q3, (arI G 30 (fun _ => 0))), (q4, (oc6 5 24 q5 0)), (q5, (arI G 120 (fun _ => 0)))] hP hD ?_
  clear hP hD
  intro hP hD
  refine lv_aload_n hx hb dX1_init_68 rfl (lv_at hl 0 rfl) ?_
  refine va_new (D := G.1) (ci := 6) (fs := [.int 0, .int 0, .null, .int 0]) (C := RX6) (T := TX6) (N := 4) hx hb hts inG_X6 tyX6 tyX6_ok hown (hts _ cl_X1_34) (hts _ isn_X6) (hts _ ini_X6) hK hP hD hS hA rfl (fun j hj => by rcases (show j = 0 ∨ j = 1 ∨ j = 2 ∨ j = 3 by omega) with rfl | rfl | rfl | rfl <;> rfl) (Nat.le_of_ble_eq_true rfl) (Nat.le_of_ble_eq_true rfl) dX1_init_69 (fun q6 H hP hD hS => ?_)
  refine g5_rs [(a0, .inr (1, [.long 0, .int 1000, .int (-1), .int (-1), .int 0, .ref q1, .ref q2, .ref q4, .null, .null, .null, .long 0, .null])), (q1, (arW G 6 (fun _ => none))), (q2, (oc6 6 5 q3 0)), (q3, (arI G 30 (fun _ => 0))), (q4, (oc6 5 24 q5 0)), (q5, (arI G 120 (fun _ => 0))), (q6, .inr (6, [.int 0, .int 0, .null, .int 0]))] hP hD ?_
  clear hP hD
  intro hP hD
  refine W.widen (k := 6) (n := 168) (Nat.le_of_ble_eq_true rfl) (Nat.le_of_ble_eq_true rfl) ?_
  refine lv_dup hx hb dX1_init_72 rfl ?_
  refine lv_bipush (v := 10) hx hb dX1_init_73 (by decide +kernel) ?_
  refine W.eq (g2 := F0 m 75 ls [.int 10, .ref q6, .ref q6, .ref a0]) rfl ?_
  refine lv_iconst (v := 4) hx hb dX1_init_75 (by decide +kernel) ?_
  obtain ⟨hPc, hDc, hFc⟩ := g5_sub3 (wc := [(q6, .inr (6, [.int 0, .int 0, .null, .int 0]))]) hP hD hS hA [6] (by decide +kernel) rfl
  refine va_callv (va_runI (As := [.int 10, .int 4]) (rest := [.ref q6, .ref a0]) ⟨hx, hb, hml, hown, hts⟩ (kX6_init_3 l G q6 H.size) (cwI 2 hts gW_X6_init rfl rfl rfl (hts _ ini_X6) (hts _ ml_X1_36) (hts _ im_X6_init) rfl hs_X6_init ⟨Nat.le_of_ble_eq_true rfl, Nat.le_of_ble_eq_true rfl⟩) (g5_preS hPc hK hDc hN hT hS hFc) rfl rfl hl.1 rfl (lv_room (Nat.le_of_ble_eq_true rfl)) dX1_init_76 ⟨Nat.le_of_ble_eq_true rfl, Nat.le_of_ble_eq_true rfl⟩) hS (fun q _ h => hFc q h) hFc (fun u t H locs ht hvm hw hB hz1 hk1 hS => ?_)
  obtain ⟨hP1, hD1⟩ := hB
  have hP1 := g5_ht ht hP1
  refine W.widen (k := 7) (n := 208) (Nat.le_of_ble_eq_true rfl) (Nat.le_of_ble_eq_true rfl) ?_
  obtain ⟨q7, rfl⟩ := hw
  have hJ9 := va_join (wr := [(a0, .inr (1, [.long 0, .int 1000, .int (-1), .int (-1), .int 0, .ref q1, .ref q2, .ref q4, .null, .null, .null, .long 0, .null])), (q1, (arW G 6 (fun _ => none))), (q2, (oc6 6 5 q3 0)), (q3, (arI G 30 (fun _ => 0))), (q4, (oc6 5 24 q5 0)), (q5, (arI G 120 (fun _ => 0)))]) hP hD [6] [0, 1, 2, 3, 4, 5] rfl rfl (by decide +kernel) (by decide +kernel) hk1 hFc hP1 hD1
  clear hP hD hPc hDc hFc ht hvm hz1 hk1 hP1 hD1
  obtain ⟨hP, hD⟩ := hJ9
  refine g5_rs [(a0, .inr (1, [.long 0, .int 1000, .int (-1), .int (-1), .int 0, .ref q1, .ref q2, .ref q4, .null, .null, .null, .long 0, .null])), (q1, (arW G 6 (fun _ => none))), (q2, (oc6 6 5 q3 0)), (q3, (arI G 30 (fun _ => 0))), (q4, (oc6 5 24 q5 0)), (q5, (arI G 120 (fun _ => 0))), (q6, (oc6 10 4 q7 0)), (q7, (arI G 40 (fun _ => 0)))] hP hD ?_
  clear hP hD
  intro hP hD
  refine va_putF (D := G.1) (ci := 1) (v := .ref q6) (ty := .object "LateGlass$Table") (C := RX1) (T := TX1) (N := 13) hx hb hts inG_X1 tyX1 tyX1_ok nmX1 hown hK hP hD hS 0 rfl rfl 8 (by decide +kernel) (hts _ fl_X1_46) (fun _ h9 => h9) rfl hin rfl (by decide +kernel) rfl rfl (Nat.le_of_ble_eq_true rfl) dX1_init_79 ?_
  clear hP hD hS
  intro H locs hP hD hS
  refine g5_rs [(a0, .inr (1, [.long 0, .int 1000, .int (-1), .int (-1), .int 0, .ref q1, .ref q2, .ref q4, .ref q6, .null, .null, .long 0, .null])), (q1, (arW G 6 (fun _ => none))), (q2, (oc6 6 5 q3 0)), (q3, (arI G 30 (fun _ => 0))), (q4, (oc6 5 24 q5 0)), (q5, (arI G 120 (fun _ => 0))), (q6, (oc6 10 4 q7 0)), (q7, (arI G 40 (fun _ => 0)))] hP hD ?_
  clear hP hD
  intro hP hD
  refine lv_aload_n hx hb dX1_init_82 rfl (lv_at hl 0 rfl) ?_
  refine va_new (D := G.1) (ci := 6) (fs := [.int 0, .int 0, .null, .int 0]) (C := RX6) (T := TX6) (N := 4) hx hb hts inG_X6 tyX6 tyX6_ok hown (hts _ cl_X1_34) (hts _ isn_X6) (hts _ ini_X6) hK hP hD hS hA rfl (fun j hj => by rcases (show j = 0 ∨ j = 1 ∨ j = 2 ∨ j = 3 by omega) with rfl | rfl | rfl | rfl <;> rfl) (Nat.le_of_ble_eq_true rfl) (Nat.le_of_ble_eq_true rfl) dX1_init_83 (fun q8 H hP hD hS => ?_)
  refine g5_rs [(a0, .inr (1, [.long 0, .int 1000, .int (-1), .int (-1), .int 0, .ref q1, .ref q2, .ref q4, .ref q6, .null, .null, .long 0, .null])), (q1, (arW G 6 (fun _ => none))), (q2, (oc6 6 5 q3 0)), (q3, (arI G 30 (fun _ => 0))), (q4, (oc6 5 24 q5 0)), (q5, (arI G 120 (fun _ => 0))), (q6, (oc6 10 4 q7 0)), (q7, (arI G 40 (fun _ => 0))), (q8, .inr (6, [.int 0, .int 0, .null, .int 0]))] hP hD ?_
  clear hP hD
  intro hP hD
  refine W.widen (k := 8) (n := 212) (Nat.le_of_ble_eq_true rfl) (Nat.le_of_ble_eq_true rfl) ?_
  refine W.eq (g2 := F0 m 86 ls [.ref q8, .ref a0]) rfl ?_
  refine lv_dup hx hb dX1_init_86 rfl ?_
  refine lv_bipush (v := 8) hx hb dX1_init_87 (by decide +kernel) ?_
  refine lv_iconst (v := 5) hx hb dX1_init_89 (by decide +kernel) ?_
  obtain ⟨hPc, hDc, hFc⟩ := g5_sub3 (wc := [(q8, .inr (6, [.int 0, .int 0, .null, .int 0]))]) hP hD hS hA [8] (by decide +kernel) rfl
  refine va_callv (va_runI (As := [.int 8, .int 5]) (rest := [.ref q8, .ref a0]) ⟨hx, hb, hml, hown, hts⟩ (kX6_init_4 l G q8 H.size) (cwI 2 hts gW_X6_init rfl rfl rfl (hts _ ini_X6) (hts _ ml_X1_36) (hts _ im_X6_init) rfl hs_X6_init ⟨Nat.le_of_ble_eq_true rfl, Nat.le_of_ble_eq_true rfl⟩) (g5_preS hPc hK hDc hN hT hS hFc) rfl rfl hl.1 rfl (lv_room (Nat.le_of_ble_eq_true rfl)) dX1_init_90 ⟨Nat.le_of_ble_eq_true rfl, Nat.le_of_ble_eq_true rfl⟩) hS (fun q _ h => hFc q h) hFc (fun u t H locs ht hvm hw hB hz1 hk1 hS => ?_)
  obtain ⟨hP1, hD1⟩ := hB
  have hP1 := g5_ht ht hP1
  refine W.widen (k := 9) (n := 252) (Nat.le_of_ble_eq_true rfl) (Nat.le_of_ble_eq_true rfl) ?_
  obtain ⟨q9, rfl⟩ := hw
  have hJ9 := va_join (wr := [(a0, .inr (1, [.long 0, .int 1000, .int (-1), .int (-1), .int 0, .ref q1, .ref q2, .ref q4, .ref q6, .null, .null, .long 0, .null])), (q1, (arW G 6 (fun _ => none))), (q2, (oc6 6 5 q3 0)), (q3, (arI G 30 (fun _ => 0))), (q4, (oc6 5 24 q5 0)), (q5, (arI G 120 (fun _ => 0))), (q6, (oc6 10 4 q7 0)), (q7, (arI G 40 (fun _ => 0)))]) hP hD [8] [0, 1, 2, 3, 4, 5, 6, 7] rfl rfl (by decide +kernel) (by decide +kernel) hk1 hFc hP1 hD1
  clear hP hD hPc hDc hFc ht hvm hz1 hk1 hP1 hD1
  obtain ⟨hP, hD⟩ := hJ9
  refine g5_rs [(a0, .inr (1, [.long 0, .int 1000, .int (-1), .int (-1), .int 0, .ref q1, .ref q2, .ref q4, .ref q6, .null, .null, .long 0, .null])), (q1, (arW G 6 (fun _ => none))), (q2, (oc6 6 5 q3 0)), (q3, (arI G 30 (fun _ => 0))), (q4, (oc6 5 24 q5 0)), (q5, (arI G 120 (fun _ => 0))), (q6, (oc6 10 4 q7 0)), (q7, (arI G 40 (fun _ => 0))), (q8, (oc6 8 5 q9 0)), (q9, (arI G 40 (fun _ => 0)))] hP hD ?_
  clear hP hD
  intro hP hD
  refine va_putF (D := G.1) (ci := 1) (v := .ref q8) (ty := .object "LateGlass$Table") (C := RX1) (T := TX1) (N := 13) hx hb hts inG_X1 tyX1 tyX1_ok nmX1 hown hK hP hD hS 0 rfl rfl 9 (by decide +kernel) (hts _ fl_X1_49) (fun _ h9 => h9) rfl hin rfl (by decide +kernel) rfl rfl (Nat.le_of_ble_eq_true rfl) dX1_init_93 ?_
  clear hP hD hS
  intro H locs hP hD hS
  refine g5_rs [(a0, .inr (1, [.long 0, .int 1000, .int (-1), .int (-1), .int 0, .ref q1, .ref q2, .ref q4, .ref q6, .ref q8, .null, .long 0, .null])), (q1, (arW G 6 (fun _ => none))), (q2, (oc6 6 5 q3 0)), (q3, (arI G 30 (fun _ => 0))), (q4, (oc6 5 24 q5 0)), (q5, (arI G 120 (fun _ => 0))), (q6, (oc6 10 4 q7 0)), (q7, (arI G 40 (fun _ => 0))), (q8, (oc6 8 5 q9 0)), (q9, (arI G 40 (fun _ => 0)))] hP hD ?_
  clear hP hD
  intro hP hD
  refine W.eq (g2 := F0 m 96 ls []) rfl ?_
  refine lv_aload_n hx hb dX1_init_96 rfl (lv_at hl 0 rfl) ?_
  refine va_new (D := G.1) (ci := 6) (fs := [.int 0, .int 0, .null, .int 0]) (C := RX6) (T := TX6) (N := 4) hx hb hts inG_X6 tyX6 tyX6_ok hown (hts _ cl_X1_34) (hts _ isn_X6) (hts _ ini_X6) hK hP hD hS hA rfl (fun j hj => by rcases (show j = 0 ∨ j = 1 ∨ j = 2 ∨ j = 3 by omega) with rfl | rfl | rfl | rfl <;> rfl) (Nat.le_of_ble_eq_true rfl) (Nat.le_of_ble_eq_true rfl) dX1_init_97 (fun q10 H hP hD hS => ?_)
  refine g5_rs [(a0, .inr (1, [.long 0, .int 1000, .int (-1), .int (-1), .int 0, .ref q1, .ref q2, .ref q4, .ref q6, .ref q8, .null, .long 0, .null])), (q1, (arW G 6 (fun _ => none))), (q2, (oc6 6 5 q3 0)), (q3, (arI G 30 (fun _ => 0))), (q4, (oc6 5 24 q5 0)), (q5, (arI G 120 (fun _ => 0))), (q6, (oc6 10 4 q7 0)), (q7, (arI G 40 (fun _ => 0))), (q8, (oc6 8 5 q9 0)), (q9, (arI G 40 (fun _ => 0))), (q10, .inr (6, [.int 0, .int 0, .null, .int 0]))] hP hD ?_
  clear hP hD
  intro hP hD
  refine W.widen (k := 10) (n := 256) (Nat.le_of_ble_eq_true rfl) (Nat.le_of_ble_eq_true rfl) ?_
  refine lv_dup hx hb dX1_init_100 rfl ?_
  refine lv_bipush (v := 6) hx hb dX1_init_101 (by decide +kernel) ?_
  refine lv_bipush (v := 6) hx hb dX1_init_103 (by decide +kernel) ?_
  refine W.eq (g2 := F0 m 105 ls [.int 6, .int 6, .ref q10, .ref q10, .ref a0]) rfl ?_
  obtain ⟨hPc, hDc, hFc⟩ := g5_sub3 (wc := [(q10, .inr (6, [.int 0, .int 0, .null, .int 0]))]) hP hD hS hA [10] (by decide +kernel) rfl
  refine va_callv (va_runI (As := [.int 6, .int 6]) (rest := [.ref q10, .ref a0]) ⟨hx, hb, hml, hown, hts⟩ (kX6_init_5 l G q10 H.size) (cwI 2 hts gW_X6_init rfl rfl rfl (hts _ ini_X6) (hts _ ml_X1_36) (hts _ im_X6_init) rfl hs_X6_init ⟨Nat.le_of_ble_eq_true rfl, Nat.le_of_ble_eq_true rfl⟩) (g5_preS hPc hK hDc hN hT hS hFc) rfl rfl hl.1 rfl (lv_room (Nat.le_of_ble_eq_true rfl)) dX1_init_105 ⟨Nat.le_of_ble_eq_true rfl, Nat.le_of_ble_eq_true rfl⟩) hS (fun q _ h => hFc q h) hFc (fun u t H locs ht hvm hw hB hz1 hk1 hS => ?_)
  obtain ⟨hP1, hD1⟩ := hB
  have hP1 := g5_ht ht hP1
  refine W.widen (k := 11) (n := 292) (Nat.le_of_ble_eq_true rfl) (Nat.le_of_ble_eq_true rfl) ?_
  obtain ⟨q11, rfl⟩ := hw
  have hJ9 := va_join (wr := [(a0, .inr (1, [.long 0, .int 1000, .int (-1), .int (-1), .int 0, .ref q1, .ref q2, .ref q4, .ref q6, .ref q8, .null, .long 0, .null])), (q1, (arW G 6 (fun _ => none))), (q2, (oc6 6 5 q3 0)), (q3, (arI G 30 (fun _ => 0))), (q4, (oc6 5 24 q5 0)), (q5, (arI G 120 (fun _ => 0))), (q6, (oc6 10 4 q7 0)), (q7, (arI G 40 (fun _ => 0))), (q8, (oc6 8 5 q9 0)), (q9, (arI G 40 (fun _ => 0)))]) hP hD [10] [0, 1, 2, 3, 4, 5, 6, 7, 8, 9] rfl rfl (by decide +kernel) (by decide +kernel) hk1 hFc hP1 hD1
  clear hP hD hPc hDc hFc ht hvm hz1 hk1 hP1 hD1
  obtain ⟨hP, hD⟩ := hJ9
  refine g5_rs [(a0, .inr (1, [.long 0, .int 1000, .int (-1), .int (-1), .int 0, .ref q1, .ref q2, .ref q4, .ref q6, .ref q8, .null, .long 0, .null])), (q1, (arW G 6 (fun _ => none))), (q2, (oc6 6 5 q3 0)), (q3, (arI G 30 (fun _ => 0))), (q4, (oc6 5 24 q5 0)), (q5, (arI G 120 (fun _ => 0))), (q6, (oc6 10 4 q7 0)), (q7, (arI G 40 (fun _ => 0))), (q8, (oc6 8 5 q9 0)), (q9, (arI G 40 (fun _ => 0))), (q10, (oc6 6 6 q11 0)), (q11, (arI G 36 (fun _ => 0)))] hP hD ?_
  clear hP hD
  intro hP hD
  refine va_putF (D := G.1) (ci := 1) (v := .ref q10) (ty := .object "LateGlass$Table") (C := RX1) (T := TX1) (N := 13) hx hb hts inG_X1 tyX1 tyX1_ok nmX1 hown hK hP hD hS 0 rfl rfl 10 (by decide +kernel) (hts _ fl_X1_52) (fun _ h9 => h9) rfl hin rfl (by decide +kernel) rfl rfl (Nat.le_of_ble_eq_true rfl) dX1_init_108 ?_
  clear hP hD hS
  intro H locs hP hD hS
  refine g5_rs [(a0, .inr (1, [.long 0, .int 1000, .int (-1), .int (-1), .int 0, .ref q1, .ref q2, .ref q4, .ref q6, .ref q8, .ref q10, .long 0, .null])), (q1, (arW G 6 (fun _ => none))), (q2, (oc6 6 5 q3 0)), (q3, (arI G 30 (fun _ => 0))), (q4, (oc6 5 24 q5 0)), (q5, (arI G 120 (fun _ => 0))), (q6, (oc6 10 4 q7 0)), (q7, (arI G 40 (fun _ => 0))), (q8, (oc6 8 5 q9 0)), (q9, (arI G 40 (fun _ => 0))), (q10, (oc6 6 6 q11 0)), (q11, (arI G 36 (fun _ => 0)))] hP hD ?_
  clear hP hD
  intro hP hD
  refine lv_aload_n hx hb dX1_init_111 rfl (lv_at hl 0 rfl) ?_
  refine lv_lconst (v := 0) hx hb dX1_init_112 (by decide +kernel) ?_
  refine va_put (D := G.1) (ci := 1) (v := .long 0) (ty := .long) (C := RX1) (T := TX1) (N := 13) hx hb hts inG_X1 tyX1 tyX1_ok nmX1 hown hK hP hD hS 0 rfl rfl 11 (by decide +kernel) (hts _ fl_X1_55) (fun _ h9 => h9) rfl (by decide +kernel) rfl rfl (Nat.le_of_ble_eq_true rfl) dX1_init_113 ?_
  clear hP hD hS
  intro H locs hP hD hS
  refine g5_rs [(a0, .inr (1, [.long 0, .int 1000, .int (-1), .int (-1), .int 0, .ref q1, .ref q2, .ref q4, .ref q6, .ref q8, .ref q10, .long 0, .null])), (q1, (arW G 6 (fun _ => none))), (q2, (oc6 6 5 q3 0)), (q3, (arI G 30 (fun _ => 0))), (q4, (oc6 5 24 q5 0)), (q5, (arI G 120 (fun _ => 0))), (q6, (oc6 10 4 q7 0)), (q7, (arI G 40 (fun _ => 0))), (q8, (oc6 8 5 q9 0)), (q9, (arI G 40 (fun _ => 0))), (q10, (oc6 6 6 q11 0)), (q11, (arI G 36 (fun _ => 0)))] hP hD ?_
  clear hP hD
  intro hP hD
  refine W.eq (g2 := F0 m 116 ls []) rfl ?_
  refine lv_aload_n hx hb dX1_init_116 rfl (lv_at hl 0 rfl) ?_
  refine lv_bipush (v := 24) hx hb dX1_init_117 (by decide +kernel) ?_
  refine va_newa (D := G.1) (atype := .long) (ty := .long) hx hb (hts _ acl_J) rfl hK hP hD hS hA (n := 24) (N' := 24) (a0 := (24, .inr (.inl (fun _ => 0)))) (fun _ => rfl) (by decide +kernel) (by decide +kernel) (by decide +kernel) (Nat.le_of_ble_eq_true rfl) (Nat.le_of_ble_eq_true rfl) dX1_init_119 (fun q12 cA H hKn hP hD hS => ?_)
  obtain rfl : cA = G.2 1 := g5_cJ hKn
  refine g5_rs [(a0, .inr (1, [.long 0, .int 1000, .int (-1), .int (-1), .int 0, .ref q1, .ref q2, .ref q4, .ref q6, .ref q8, .ref q10, .long 0, .null])), (q1, (arW G 6 (fun _ => none))), (q2, (oc6 6 5 q3 0)), (q3, (arI G 30 (fun _ => 0))), (q4, (oc6 5 24 q5 0)), (q5, (arI G 120 (fun _ => 0))), (q6, (oc6 10 4 q7 0)), (q7, (arI G 40 (fun _ => 0))), (q8, (oc6 8 5 q9 0)), (q9, (arI G 40 (fun _ => 0))), (q10, (oc6 6 6 q11 0)), (q11, (arI G 36 (fun _ => 0))), (q12, (arJ G 24 (fun _ => 0)))] hP hD ?_
  clear hP hD
  intro hP hD
  refine W.widen (k := 12) (n := 316) (Nat.le_of_ble_eq_true rfl) (Nat.le_of_ble_eq_true rfl) ?_
  refine va_putF (D := G.1) (ci := 1) (v := .ref q12) (ty := .array .long) (C := RX1) (T := TX1) (N := 13) hx hb hts inG_X1 tyX1 tyX1_ok nmX1 hown hK hP hD hS 0 rfl rfl 12 (by decide +kernel) (hts _ fl_X1_58) (fun _ h9 => h9) rfl hin rfl (by decide +kernel) rfl rfl (Nat.le_of_ble_eq_true rfl) dX1_init_121 ?_
  clear hP hD hS
  intro H locs hP hD hS
  refine g5_rs [(a0, (oc1 0 1000 (-1) (-1) 0 q1 q2 q4 q6 q8 q10 0 q12)), (q1, (arW G 6 (fun _ => none))), (q2, (oc6 6 5 q3 0)), (q3, (arI G 30 (fun _ => 0))), (q4, (oc6 5 24 q5 0)), (q5, (arI G 120 (fun _ => 0))), (q6, (oc6 10 4 q7 0)), (q7, (arI G 40 (fun _ => 0))), (q8, (oc6 8 5 q9 0)), (q9, (arI G 40 (fun _ => 0))), (q10, (oc6 6 6 q11 0)), (q11, (arI G 36 (fun _ => 0))), (q12, (arJ G 24 (fun _ => 0)))] hP hD ?_
  clear hP hD
  intro hP hD
  exact W.vret hx hb hr (fun t ht hW => ⟨⟨[(a0, (oc1 0 1000 (-1) (-1) 0 q1 q2 q4 q6 q8 q10 0 q12)), (q1, (arW G 6 (fun _ => none))), (q2, (oc6 6 5 q3 0)), (q3, (arI G 30 (fun _ => 0))), (q4, (oc6 5 24 q5 0)), (q5, (arI G 120 (fun _ => 0))), (q6, (oc6 10 4 q7 0)), (q7, (arI G 40 (fun _ => 0))), (q8, (oc6 8 5 q9 0)), (q9, (arI G 40 (fun _ => 0))), (q10, (oc6 6 6 q11 0)), (q11, (arI G 36 (fun _ => 0))), (q12, (arJ G 24 (fun _ => 0)))], rfl, ⟨q1, q2, q3, q4, q5, q6, q7, q8, q9, q10, q11, q12, rfl⟩, by rw [ht]; exact hP, hD⟩, hS.F ht⟩) hS.2.2 dX1_init_124
theorem cd_X1_init : Cond.code yX1_init cX1_init 1 none ∈ tblG := tg 123 (by decide +kernel) (by decide +kernel)
theorem gW_X1_init : GoodIn tblG (wsG yX1_init cX1_init 1 none) := tgi cd_X1_init
theorem hs_X1_init : yX1_init.cls ≠ "java/lang/invoke/MethodHandle" ∧ yX1_init.cls ≠ "java/lang/invoke/VarHandle" ∧ (parseMethodDescriptor yX1_init.desc).map (fun d => d.parameters.length) = some 0 := by decide +kernel
theorem im_X1_init : Cond.instanceMethod yX1_init ∈ tblG := tg 122 (by decide +kernel) (by decide +kernel)
theorem cl_X11_24 : Cond.classLink RX11 24 RX5 ∈ tblG := tg 222 (by decide +kernel) (by decide +kernel)
theorem oi_X5_3 : Cond.methodLink RX5 3 objectInit ∈ tblG := tg 227 (by decide +kernel) (by decide +kernel)
theorem cl_X5_9 : Cond.classLink RX5 9 RX2 ∈ tblG := tg 228 (by decide +kernel) (by decide +kernel)
theorem oi_X2_3 : Cond.methodLink RX2 3 objectInit ∈ tblG := tg 233 (by decide +kernel) (by decide +kernel)
theorem dgX2_init_0 : ∀ r ∈ ([(0, (.aload_n 0, 1)), (1, (.invokespecial 3, 3)), (4, (.aload_n 0, 1)), (5, (.bipush 8, 2)), (7, (.newarray .int, 2)), (9, (.putfield 9, 3)), (12, (.aload_n 0, 1)), (13, (.bipush 50, 2)), (15, (.newarray .long, 2)), (17, (.putfield 15, 3)), (20, (.return_, 1))] : List (Nat × (Instr × Nat))), decode cX2_init r.1 = .ok r.2 := by decide +kernel
theorem dX2_init_0 : decode cX2_init 0 = .ok (.aload_n 0, 1) := dgX2_init_0 (0, (.aload_n 0, 1)) (List.mem_of_getElem? (i := 0) rfl)
theorem dX2_init_1 : decode cX2_init 1 = .ok (.invokespecial 3, 3) := dgX2_init_0 (1, (.invokespecial 3, 3)) (List.mem_of_getElem? (i := 1) rfl)
theorem dX2_init_4 : decode cX2_init 4 = .ok (.aload_n 0, 1) := dgX2_init_0 (4, (.aload_n 0, 1)) (List.mem_of_getElem? (i := 2) rfl)
theorem dX2_init_5 : decode cX2_init 5 = .ok (.bipush 8, 2) := dgX2_init_0 (5, (.bipush 8, 2)) (List.mem_of_getElem? (i := 3) rfl)
theorem dX2_init_7 : decode cX2_init 7 = .ok (.newarray .int, 2) := dgX2_init_0 (7, (.newarray .int, 2)) (List.mem_of_getElem? (i := 4) rfl)
theorem dX2_init_9 : decode cX2_init 9 = .ok (.putfield 9, 3) := dgX2_init_0 (9, (.putfield 9, 3)) (List.mem_of_getElem? (i := 5) rfl)
theorem dX2_init_12 : decode cX2_init 12 = .ok (.aload_n 0, 1) := dgX2_init_0 (12, (.aload_n 0, 1)) (List.mem_of_getElem? (i := 6) rfl)
theorem dX2_init_13 : decode cX2_init 13 = .ok (.bipush 50, 2) := dgX2_init_0 (13, (.bipush 50, 2)) (List.mem_of_getElem? (i := 7) rfl)
theorem dX2_init_15 : decode cX2_init 15 = .ok (.newarray .long, 2) := dgX2_init_0 (15, (.newarray .long, 2)) (List.mem_of_getElem? (i := 8) rfl)
theorem dX2_init_17 : decode cX2_init 17 = .ok (.putfield 15, 3) := dgX2_init_0 (17, (.putfield 15, 3)) (List.mem_of_getElem? (i := 9) rfl)
theorem dX2_init_20 : decode cX2_init 20 = .ok (.return_, 1) := dgX2_init_0 (20, (.return_, 1)) (List.mem_of_getElem? (i := 10) rfl)
set_option maxHeartbeats 4000000 in
set_option maxRecDepth 100000 in
theorem kX2_init (l : Launch) (G : g5_G) (a0 : Nat) (sz : Nat) : Met l yX2_init (wsG yX2_init cX2_init 1 none) ({ frames := 1, cells := 2, slots := 58, locals := 12 }) (va_Pc [.ref a0] (g5_P G [(a0, .inr (2, [.null, .null]))] sz)) (va_Qv (fun (u : va_W) => (∃ (q1 : Nat) (q2 : Nat), (u = [(a0, (oc2 q1 q2)), (q1, (arI G 8 (fun _ => 0))), (q2, (arJ G 50 (fun _ => 0)))]))) (g5_B G (va_A [(a0, .inr (2, [.null, .null]))] sz)) (va_A [(a0, .inr (2, [.null, .null]))] sz)) 2 58 (va_A [(a0, .inr (2, [.null, .null]))] sz) := by
  refine Met.ofW (cc := cX2_init) (maxL := 1) (ret := none) (by decide +kernel) rfl ?_
  intro p e s m args below meth c s₁ B hml hv
  obtain ⟨rfl, hsz, hP, hK, hD0, hN, hT⟩ := hv
  have hx := B.exec
  have hb := B.bytes
  have hr := B.returns
  have hts : ∀ w ∈ tblG, w.before _ s = true := fun w h => atoms_spec (ws := (wsG yX2_init cX2_init 1 none)) B.pre w (List.mem_cons_of_mem _ h)
  have hown : s.vm.findClass RX2 = some m.cls := findClass_of_methodNamed B.named
  have hlocks := B.notSynchronized
  have hin : meth.name = "<init>" := (name_of_methodNamed B.named B.method).1
  subst hsz
  have hD := hD0.self (sz := s.heap.size)
  generalize hAe : va_A [(a0, .inr (2, [.null, .null]))] s.heap.size = A at hD hT ⊢
  have hA : ∀ q : Nat, s.heap.size ≤ q → A q := fun q h => by rw [← hAe]; exact Or.inr h
  have hS : va_S A s.heap s.heap [] := va_S.rf
  replace hP : va_P G.1 vwCl [(a0, .inr (2, [.null, .null]))] s.heap := hP
  have hl := lv_entry ([.ref a0]) (n := 1) (Nat.le_of_ble_eq_true rfl)
  rw [lg_entry_eq]
  generalize (lg_sl ([.ref a0]) ++ List.replicate (1 - (lg_sl ([.ref a0])).length) Slot.unset).toArray = ls at hl ⊢
  replace hl : lv_has ls 1 [(0, .ref a0)] := hl
  refine lv_aload_n hx hb dX2_init_0 rfl (lv_at hl 0 rfl) ?_
  refine W.objInit hx hb hown (hts _ oi_X2_3) (hts _ oi_im) (hts _ oi_cd) rfl (by rw [hml]; exact hl.1) rfl dX2_init_1 (Nat.le_of_ble_eq_true rfl) (Nat.le_of_ble_eq_true rfl) ?_
  refine W.eq (g2 := F0 m 4 ls []) rfl ?_
  refine lv_aload_n hx hb dX2_init_4 rfl (lv_at hl 0 rfl) ?_
  refine lv_bipush (v := 8) hx hb dX2_init_5 (by decide +kernel) ?_
  refine W.eq (g2 := F0 m 7 ls [.int 8, .ref a0]) rfl ?_
  refine va_newa (D := G.1) (atype := .int) (ty := .int) hx hb (hts _ acl_I) rfl hK hP hD hS hA (n := 8) (N' := 8) (a0 := (8, .inl (fun _ => 0))) (fun _ => rfl) (by decide +kernel) (by decide +kernel) (by decide +kernel) (Nat.le_of_ble_eq_true rfl) (Nat.le_of_ble_eq_true rfl) dX2_init_7 (fun q1 cA H hKn hP hD hS => ?_)
  obtain rfl : cA = G.2 0 := g5_cI hKn
  refine g5_rs [(a0, .inr (2, [.null, .null])), (q1, (arI G 8 (fun _ => 0)))] hP hD ?_
  clear hP hD
  intro hP hD
  refine W.widen (k := 1) (n := 8) (Nat.le_of_ble_eq_true rfl) (Nat.le_of_ble_eq_true rfl) ?_
  refine va_putF (D := G.1) (ci := 2) (v := .ref q1) (ty := .array .int) (C := RX2) (T := TX2) (N := 2) hx hb hts inG_X2 tyX2 tyX2_ok nmX2 hown hK hP hD hS 0 rfl rfl 0 (by decide +kernel) (hts _ fl_X2_9) (fun _ h9 => h9) rfl hin rfl (by decide +kernel) rfl rfl (Nat.le_of_ble_eq_true rfl) dX2_init_9 ?_
  clear hP hD hS
  intro H locs hP hD hS
  refine g5_rs [(a0, .inr (2, [.ref q1, .null])), (q1, (arI G 8 (fun _ => 0)))] hP hD ?_
  clear hP hD
  intro hP hD
  refine lv_aload_n hx hb dX2_init_12 rfl (lv_at hl 0 rfl) ?_
  refine lv_bipush (v := 50) hx hb dX2_init_13 (by decide +kernel) ?_
  refine va_newa (D := G.1) (atype := .long) (ty := .long) hx hb (hts _ acl_J) rfl hK hP hD hS hA (n := 50) (N' := 50) (a0 := (50, .inr (.inl (fun _ => 0)))) (fun _ => rfl) (by decide +kernel) (by decide +kernel) (by decide +kernel) (Nat.le_of_ble_eq_true rfl) (Nat.le_of_ble_eq_true rfl) dX2_init_15 (fun q2 cA H hKn hP hD hS => ?_)
  obtain rfl : cA = G.2 1 := g5_cJ hKn
  refine g5_rs [(a0, .inr (2, [.ref q1, .null])), (q1, (arI G 8 (fun _ => 0))), (q2, (arJ G 50 (fun _ => 0)))] hP hD ?_
  clear hP hD
  intro hP hD
  refine W.widen (k := 2) (n := 58) (Nat.le_of_ble_eq_true rfl) (Nat.le_of_ble_eq_true rfl) ?_
  refine W.eq (g2 := F0 m 17 ls [.ref q2, .ref a0]) rfl ?_
  refine va_putF (D := G.1) (ci := 2) (v := .ref q2) (ty := .array .long) (C := RX2) (T := TX2) (N := 2) hx hb hts inG_X2 tyX2 tyX2_ok nmX2 hown hK hP hD hS 0 rfl rfl 1 (by decide +kernel) (hts _ fl_X2_15) (fun _ h9 => h9) rfl hin rfl (by decide +kernel) rfl rfl (Nat.le_of_ble_eq_true rfl) dX2_init_17 ?_
  clear hP hD hS
  intro H locs hP hD hS
  refine g5_rs [(a0, (oc2 q1 q2)), (q1, (arI G 8 (fun _ => 0))), (q2, (arJ G 50 (fun _ => 0)))] hP hD ?_
  clear hP hD
  intro hP hD
  exact W.vret hx hb hr (fun t ht hW => ⟨⟨[(a0, (oc2 q1 q2)), (q1, (arI G 8 (fun _ => 0))), (q2, (arJ G 50 (fun _ => 0)))], rfl, ⟨q1, q2, rfl⟩, by rw [ht]; exact hP, hD⟩, hS.F ht⟩) hS.2.2 dX2_init_20
theorem cd_X2_init : Cond.code yX2_init cX2_init 1 none ∈ tblG := tg 232 (by decide +kernel) (by decide +kernel)
theorem gW_X2_init : GoodIn tblG (wsG yX2_init cX2_init 1 none) := tgi cd_X2_init
theorem hs_X2_init : yX2_init.cls ≠ "java/lang/invoke/MethodHandle" ∧ yX2_init.cls ≠ "java/lang/invoke/VarHandle" ∧ (parseMethodDescriptor yX2_init.desc).map (fun d => d.parameters.length) = some 0 := by decide +kernel
theorem im_X2_init : Cond.instanceMethod yX2_init ∈ tblG := tg 231 (by decide +kernel) (by decide +kernel)
theorem dgX5_init_0 : ∀ r ∈ ([(0, (.aload_n 0, 1)), (1, (.invokespecial 3, 3)), (4, (.aload_n 0, 1)), (5, (.new 9, 3)), (8, (.dup, 1)), (9, (.invokespecial 11, 3)), (12, (.putfield 12, 3)), (15, (.aload_n 0, 1)), (16, (.sipush 200, 3)), (19, (.newarray .int, 2)), (21, (.putfield 18, 3)), (24, (.aload_n 0, 1)), (25, (.aload_n 1, 1)), (26, (.putfield 22, 3)), (29, (.return_, 1))] : List (Nat × (Instr × Nat))), decode cX5_init r.1 = .ok r.2 := by decide +kernel
theorem dX5_init_0 : decode cX5_init 0 = .ok (.aload_n 0, 1) := dgX5_init_0 (0, (.aload_n 0, 1)) (List.mem_of_getElem? (i := 0) rfl)
theorem dX5_init_1 : decode cX5_init 1 = .ok (.invokespecial 3, 3) := dgX5_init_0 (1, (.invokespecial 3, 3)) (List.mem_of_getElem? (i := 1) rfl)
theorem dX5_init_4 : decode cX5_init 4 = .ok (.aload_n 0, 1) := dgX5_init_0 (4, (.aload_n 0, 1)) (List.mem_of_getElem? (i := 2) rfl)
theorem dX5_init_5 : decode cX5_init 5 = .ok (.new 9, 3) := dgX5_init_0 (5, (.new 9, 3)) (List.mem_of_getElem? (i := 3) rfl)
theorem dX5_init_8 : decode cX5_init 8 = .ok (.dup, 1) := dgX5_init_0 (8, (.dup, 1)) (List.mem_of_getElem? (i := 4) rfl)
theorem dX5_init_9 : decode cX5_init 9 = .ok (.invokespecial 11, 3) := dgX5_init_0 (9, (.invokespecial 11, 3)) (List.mem_of_getElem? (i := 5) rfl)
theorem dX5_init_12 : decode cX5_init 12 = .ok (.putfield 12, 3) := dgX5_init_0 (12, (.putfield 12, 3)) (List.mem_of_getElem? (i := 6) rfl)
theorem dX5_init_15 : decode cX5_init 15 = .ok (.aload_n 0, 1) := dgX5_init_0 (15, (.aload_n 0, 1)) (List.mem_of_getElem? (i := 7) rfl)
theorem dX5_init_16 : decode cX5_init 16 = .ok (.sipush 200, 3) := dgX5_init_0 (16, (.sipush 200, 3)) (List.mem_of_getElem? (i := 8) rfl)
theorem dX5_init_19 : decode cX5_init 19 = .ok (.newarray .int, 2) := dgX5_init_0 (19, (.newarray .int, 2)) (List.mem_of_getElem? (i := 9) rfl)
theorem dX5_init_21 : decode cX5_init 21 = .ok (.putfield 18, 3) := dgX5_init_0 (21, (.putfield 18, 3)) (List.mem_of_getElem? (i := 10) rfl)
theorem dX5_init_24 : decode cX5_init 24 = .ok (.aload_n 0, 1) := dgX5_init_0 (24, (.aload_n 0, 1)) (List.mem_of_getElem? (i := 11) rfl)
theorem dX5_init_25 : decode cX5_init 25 = .ok (.aload_n 1, 1) := dgX5_init_0 (25, (.aload_n 1, 1)) (List.mem_of_getElem? (i := 12) rfl)
theorem dX5_init_26 : decode cX5_init 26 = .ok (.putfield 22, 3) := dgX5_init_0 (26, (.putfield 22, 3)) (List.mem_of_getElem? (i := 13) rfl)
theorem dX5_init_29 : decode cX5_init 29 = .ok (.return_, 1) := dgX5_init_0 (29, (.return_, 1)) (List.mem_of_getElem? (i := 14) rfl)
set_option maxHeartbeats 4000000 in
set_option maxRecDepth 100000 in
theorem kX5_init (l : Launch) (G : g5_G) (a0 a1 : Nat) (sz : Nat) : Met l yX5_init (wsG yX5_init cX5_init 2 none) ({ frames := 2, cells := 4, slots := 260, locals := 32 }) (va_Pc [.ref a0, .ref a1] (g5_P G [(a0, .inr (5, [.null, .null, .null, .int 0, .int 0, .int 0, .int 0, .int 0, .int 0, .int 0, .int 0, .int 0, .int 0]))] sz)) (va_Qv (fun (u : va_W) => (∃ (q1 : Nat) (q2 : Nat) (q3 : Nat) (q4 : Nat), (u = [(a0, (oc5 a1 q1 q4 0 0 0 0 0 0 0 0 0 0)), (q1, (oc2 q2 q3)), (q2, (arI G 8 (fun _ => 0))), (q3, (arJ G 50 (fun _ => 0))), (q4, (arI G 200 (fun _ => 0)))]))) (g5_B G (va_A [(a0, .inr (5, [.null, .null, .null, .int 0, .int 0, .int 0, .int 0, .int 0, .int 0, .int 0, .int 0, .int 0, .int 0]))] sz)) (va_A [(a0, .inr (5, [.null, .null, .null, .int 0, .int 0, .int 0, .int 0, .int 0, .int 0, .int 0, .int 0, .int 0, .int 0]))] sz)) 4 260 (va_A [(a0, .inr (5, [.null, .null, .null, .int 0, .int 0, .int 0, .int 0, .int 0, .int 0, .int 0, .int 0, .int 0, .int 0]))] sz) := by
  refine Met.ofW (cc := cX5_init) (maxL := 2) (ret := none) (by decide +kernel) rfl ?_
  intro p e s m args below meth c s₁ B hml hv
  obtain ⟨rfl, hsz, hP, hK, hD0, hN, hT⟩ := hv
  have hx := B.exec
  have hb := B.bytes
  have hr := B.returns
  have hts : ∀ w ∈ tblG, w.before _ s = true := fun w h => atoms_spec (ws := (wsG yX5_init cX5_init 2 none)) B.pre w (List.mem_cons_of_mem _ h)
  have hown : s.vm.findClass RX5 = some m.cls := findClass_of_methodNamed B.named
  have hlocks := B.notSynchronized
  have hin : meth.name = "<init>" := (name_of_methodNamed B.named B.method).1
  subst hsz
  have hD := hD0.self (sz := s.heap.size)
  generalize hAe : va_A [(a0, .inr (5, [.null, .null, .null, .int 0, .int 0, .int 0, .int 0, .int 0, .int 0, .int 0, .int 0, .int 0, .int 0]))] s.heap.size = A at hD hT ⊢
  have hA : ∀ q : Nat, s.heap.size ≤ q → A q := fun q h => by rw [← hAe]; exact Or.inr h
  have hS : va_S A s.heap s.heap [] := va_S.rf
  replace hP : va_P G.1 vwCl [(a0, .inr (5, [.null, .null, .null, .int 0, .int 0, .int 0, .int 0, .int 0, .int 0, .int 0, .int 0, .int 0, .int 0]))] s.heap := hP
  have hl := lv_entry ([.ref a0, .ref a1]) (n := 2) (Nat.le_of_ble_eq_true rfl)
  rw [lg_entry_eq]
  generalize (lg_sl ([.ref a0, .ref a1]) ++ List.replicate (2 - (lg_sl ([.ref a0, .ref a1])).length) Slot.unset).toArray = ls at hl ⊢
  replace hl : lv_has ls 2 [(0, .ref a0), (1, .ref a1)] := hl
  refine lv_aload_n hx hb dX5_init_0 rfl (lv_at hl 0 rfl) ?_
  refine W.objInit hx hb hown (hts _ oi_X5_3) (hts _ oi_im) (hts _ oi_cd) rfl (by rw [hml]; exact hl.1) rfl dX5_init_1 (Nat.le_of_ble_eq_true rfl) (Nat.le_of_ble_eq_true rfl) ?_
  refine W.eq (g2 := F0 m 4 ls []) rfl ?_
  refine lv_aload_n hx hb dX5_init_4 rfl (lv_at hl 0 rfl) ?_
  refine va_new (D := G.1) (ci := 2) (fs := [.null, .null]) (C := RX2) (T := TX2) (N := 2) hx hb hts inG_X2 tyX2 tyX2_ok hown (hts _ cl_X5_9) (hts _ isn_X2) (hts _ ini_X2) hK hP hD hS hA rfl (fun j hj => by rcases (show j = 0 ∨ j = 1 by omega) with rfl | rfl <;> rfl) (Nat.le_of_ble_eq_true rfl) (Nat.le_of_ble_eq_true rfl) dX5_init_5 (fun q1 H hP hD hS => ?_)
  refine g5_rs [(a0, .inr (5, [.null, .null, .null, .int 0, .int 0, .int 0, .int 0, .int 0, .int 0, .int 0, .int 0, .int 0, .int 0])), (q1, .inr (2, [.null, .null]))] hP hD ?_
  clear hP hD
  intro hP hD
  refine W.widen (k := 1) (n := 2) (Nat.le_of_ble_eq_true rfl) (Nat.le_of_ble_eq_true rfl) ?_
  refine W.eq (g2 := F0 m 8 ls [.ref q1, .ref a0]) rfl ?_
  refine lv_dup hx hb dX5_init_8 rfl ?_
  obtain ⟨hPc, hDc, hFc⟩ := g5_sub3 (wc := [(q1, .inr (2, [.null, .null]))]) hP hD hS hA [1] (by decide +kernel) rfl
  refine va_callv (va_runIN (As := []) (rest := [.ref q1, .ref a0]) ⟨hx, hb, hml, hown, hts⟩ (kX2_init l G q1 H.size) ⟨va_cnB 0 hts gW_X2_init rfl rfl rfl (hN.1 _ g5_nw_X5_11) (hts _ ini_X2) hs_X2_init ⟨Nat.le_of_ble_eq_true rfl, Nat.le_of_ble_eq_true rfl⟩, rfl, hts _ im_X2_init⟩ (g5_preS hPc hK hDc hN hT hS hFc) rfl rfl hl.1 rfl (lv_room (Nat.le_of_ble_eq_true rfl)) dX5_init_9 ⟨Nat.le_of_ble_eq_true rfl, Nat.le_of_ble_eq_true rfl⟩) hS (fun q _ h => hFc q h) hFc (fun u t H locs ht hvm hw hB hz1 hk1 hS => ?_)
  obtain ⟨hP1, hD1⟩ := hB
  have hP1 := g5_ht ht hP1
  refine W.widen (k := 3) (n := 60) (Nat.le_of_ble_eq_true rfl) (Nat.le_of_ble_eq_true rfl) ?_
  obtain ⟨q2, q3, rfl⟩ := hw
  have hJ9 := va_join (wr := [(a0, .inr (5, [.null, .null, .null, .int 0, .int 0, .int 0, .int 0, .int 0, .int 0, .int 0, .int 0, .int 0, .int 0]))]) hP hD [1] [0] rfl rfl (by decide +kernel) (by decide +kernel) hk1 hFc hP1 hD1
  clear hP hD hPc hDc hFc ht hvm hz1 hk1 hP1 hD1
  obtain ⟨hP, hD⟩ := hJ9
  refine g5_rs [(a0, .inr (5, [.null, .null, .null, .int 0, .int 0, .int 0, .int 0, .int 0, .int 0, .int 0, .int 0, .int 0, .int 0])), (q1, (oc2 q2 q3)), (q2, (arI G 8 (fun _ => 0))), (q3, (arJ G 50 (fun _ => 0)))] hP hD ?_
  clear hP hD
  intro hP hD
  refine va_putF (D := G.1) (ci := 5) (v := .ref q1) (ty := .object "LateGlass$Judge") (C := RX5) (T := TX5) (N := 13) hx hb hts inG_X5 tyX5 tyX5_ok nmX5 hown hK hP hD hS 0 rfl rfl 1 (by decide +kernel) (hts _ fl_X5_12) (fun _ h9 => h9) rfl hin rfl (by decide +kernel) rfl rfl (Nat.le_of_ble_eq_true rfl) dX5_init_12 ?_
  clear hP hD hS
  intro H locs hP hD hS
  refine g5_rs [(a0, .inr (5, [.null, .ref q1, .null, .int 0, .int 0, .int 0, .int 0, .int 0, .int 0, .int 0, .int 0, .int 0, .int 0])), (q1, (oc2 q2 q3)), (q2, (arI G 8 (fun _ => 0))), (q3, (arJ G 50 (fun _ => 0)))] hP hD ?_
  clear hP hD
  intro hP hD
  refine lv_aload_n hx hb dX5_init_15 rfl (lv_at hl 0 rfl) ?_
  refine lv_sipush (v := 200) hx hb dX5_init_16 (by decide +kernel) ?_
  refine W.eq (g2 := F0 m 19 ls [.int 200, .ref a0]) rfl ?_
  refine va_newa (D := G.1) (atype := .int) (ty := .int) hx hb (hts _ acl_I) rfl hK hP hD hS hA (n := 200) (N' := 200) (a0 := (200, .inl (fun _ => 0))) (fun _ => rfl) (by decide +kernel) (by decide +kernel) (by decide +kernel) (Nat.le_of_ble_eq_true rfl) (Nat.le_of_ble_eq_true rfl) dX5_init_19 (fun q4 cA H hKn hP hD hS => ?_)
  obtain rfl : cA = G.2 0 := g5_cI hKn
  refine g5_rs [(a0, .inr (5, [.null, .ref q1, .null, .int 0, .int 0, .int 0, .int 0, .int 0, .int 0, .int 0, .int 0, .int 0, .int 0])), (q1, (oc2 q2 q3)), (q2, (arI G 8 (fun _ => 0))), (q3, (arJ G 50 (fun _ => 0))), (q4, (arI G 200 (fun _ => 0)))] hP hD ?_
  clear hP hD
  intro hP hD
  refine W.widen (k := 4) (n := 260) (Nat.le_of_ble_eq_true rfl) (Nat.le_of_ble_eq_true rfl) ?_
  refine va_putF (D := G.1) (ci := 5) (v := .ref q4) (ty := .array .int) (C := RX5) (T := TX5) (N := 13) hx hb hts inG_X5 tyX5 tyX5_ok nmX5 hown hK hP hD hS 0 rfl rfl 2 (by decide +kernel) (hts _ fl_X5_18) (fun _ h9 => h9) rfl hin rfl (by decide +kernel) rfl rfl (Nat.le_of_ble_eq_true rfl) dX5_init_21 ?_
  clear hP hD hS
  intro H locs hP hD hS
  refine g5_rs [(a0, .inr (5, [.null, .ref q1, .ref q4, .int 0, .int 0, .int 0, .int 0, .int 0, .int 0, .int 0, .int 0, .int 0, .int 0])), (q1, (oc2 q2 q3)), (q2, (arI G 8 (fun _ => 0))), (q3, (arJ G 50 (fun _ => 0))), (q4, (arI G 200 (fun _ => 0)))] hP hD ?_
  clear hP hD
  intro hP hD
  refine lv_aload_n hx hb dX5_init_24 rfl (lv_at hl 0 rfl) ?_
  refine lv_aload_n hx hb dX5_init_25 rfl (lv_at hl 1 rfl) ?_
  refine va_putF (D := G.1) (ci := 5) (v := .ref a1) (ty := .object "LateGlass$House") (C := RX5) (T := TX5) (N := 13) hx hb hts inG_X5 tyX5 tyX5_ok nmX5 hown hK hP hD hS 0 rfl rfl 0 (by decide +kernel) (hts _ fl_X5_22) (fun _ h9 => h9) rfl hin rfl (by decide +kernel) rfl rfl (Nat.le_of_ble_eq_true rfl) dX5_init_26 ?_
  clear hP hD hS
  intro H locs hP hD hS
  refine g5_rs [(a0, (oc5 a1 q1 q4 0 0 0 0 0 0 0 0 0 0)), (q1, (oc2 q2 q3)), (q2, (arI G 8 (fun _ => 0))), (q3, (arJ G 50 (fun _ => 0))), (q4, (arI G 200 (fun _ => 0)))] hP hD ?_
  clear hP hD
  intro hP hD
  refine W.eq (g2 := F0 m 29 ls []) rfl ?_
  exact W.vret hx hb hr (fun t ht hW => ⟨⟨[(a0, (oc5 a1 q1 q4 0 0 0 0 0 0 0 0 0 0)), (q1, (oc2 q2 q3)), (q2, (arI G 8 (fun _ => 0))), (q3, (arJ G 50 (fun _ => 0))), (q4, (arI G 200 (fun _ => 0)))], rfl, ⟨q1, q2, q3, q4, rfl⟩, by rw [ht]; exact hP, hD⟩, hS.F ht⟩) hS.2.2 dX5_init_29
theorem cd_X5_init : Cond.code yX5_init cX5_init 2 none ∈ tblG := tg 226 (by decide +kernel) (by decide +kernel)
theorem gW_X5_init : GoodIn tblG (wsG yX5_init cX5_init 2 none) := tgi cd_X5_init
theorem ml_X11_26 : Cond.methodLink RX11 26 yX5_init ∈ tblG := tg 224 (by decide +kernel) (by decide +kernel)
theorem im_X5_init : Cond.instanceMethod yX5_init ∈ tblG := tg 225 (by decide +kernel) (by decide +kernel)
theorem hs_X5_init : yX5_init.cls ≠ "java/lang/invoke/MethodHandle" ∧ yX5_init.cls ≠ "java/lang/invoke/VarHandle" ∧ (parseMethodDescriptor yX5_init.desc).map (fun d => d.parameters.length) = some 1 := by decide +kernel
theorem cl_X11_33 : Cond.classLink RX11 33 RX10 ∈ tblG := tg 294 (by decide +kernel) (by decide +kernel)
theorem oi_X10_3 : Cond.methodLink RX10 3 objectInit ∈ tblG := tg 299 (by decide +kernel) (by decide +kernel)
theorem dgX10_init_0 : ∀ r ∈ ([(0, (.aload_n 0, 1)), (1, (.invokespecial 3, 3)), (4, (.aload_n 0, 1)), (5, (.bipush 24, 2)), (7, (.newarray .long, 2)), (9, (.putfield 9, 3)), (12, (.aload_n 0, 1)), (13, (.aload_n 1, 1)), (14, (.putfield 15, 3)), (17, (.aload_n 0, 1)), (18, (.aload_n 2, 1)), (19, (.putfield 19, 3)), (22, (.return_, 1))] : List (Nat × (Instr × Nat))), decode cX10_init r.1 = .ok r.2 := by decide +kernel
theorem dX10_init_0 : decode cX10_init 0 = .ok (.aload_n 0, 1) := dgX10_init_0 (0, (.aload_n 0, 1)) (List.mem_of_getElem? (i := 0) rfl)
theorem dX10_init_1 : decode cX10_init 1 = .ok (.invokespecial 3, 3) := dgX10_init_0 (1, (.invokespecial 3, 3)) (List.mem_of_getElem? (i := 1) rfl)
theorem dX10_init_4 : decode cX10_init 4 = .ok (.aload_n 0, 1) := dgX10_init_0 (4, (.aload_n 0, 1)) (List.mem_of_getElem? (i := 2) rfl)
theorem dX10_init_5 : decode cX10_init 5 = .ok (.bipush 24, 2) := dgX10_init_0 (5, (.bipush 24, 2)) (List.mem_of_getElem? (i := 3) rfl)
theorem dX10_init_7 : decode cX10_init 7 = .ok (.newarray .long, 2) := dgX10_init_0 (7, (.newarray .long, 2)) (List.mem_of_getElem? (i := 4) rfl)
theorem dX10_init_9 : decode cX10_init 9 = .ok (.putfield 9, 3) := dgX10_init_0 (9, (.putfield 9, 3)) (List.mem_of_getElem? (i := 5) rfl)
theorem dX10_init_12 : decode cX10_init 12 = .ok (.aload_n 0, 1) := dgX10_init_0 (12, (.aload_n 0, 1)) (List.mem_of_getElem? (i := 6) rfl)
theorem dX10_init_13 : decode cX10_init 13 = .ok (.aload_n 1, 1) := dgX10_init_0 (13, (.aload_n 1, 1)) (List.mem_of_getElem? (i := 7) rfl)
theorem dX10_init_14 : decode cX10_init 14 = .ok (.putfield 15, 3) := dgX10_init_0 (14, (.putfield 15, 3)) (List.mem_of_getElem? (i := 8) rfl)
theorem dX10_init_17 : decode cX10_init 17 = .ok (.aload_n 0, 1) := dgX10_init_0 (17, (.aload_n 0, 1)) (List.mem_of_getElem? (i := 9) rfl)
theorem dX10_init_18 : decode cX10_init 18 = .ok (.aload_n 2, 1) := dgX10_init_0 (18, (.aload_n 2, 1)) (List.mem_of_getElem? (i := 10) rfl)
theorem dX10_init_19 : decode cX10_init 19 = .ok (.putfield 19, 3) := dgX10_init_0 (19, (.putfield 19, 3)) (List.mem_of_getElem? (i := 11) rfl)
theorem dX10_init_22 : decode cX10_init 22 = .ok (.return_, 1) := dgX10_init_0 (22, (.return_, 1)) (List.mem_of_getElem? (i := 12) rfl)
set_option maxHeartbeats 4000000 in
set_option maxRecDepth 100000 in
theorem kX10_init (l : Launch) (G : g5_G) (a0 a1 a2 : Nat) (sz : Nat) : Met l yX10_init (wsG yX10_init cX10_init 3 none) ({ frames := 1, cells := 1, slots := 24, locals := 12 }) (va_Pc [.ref a0, .ref a1, .ref a2] (g5_P G [(a0, .inr (10, [.null, .null, .null]))] sz)) (va_Qv (fun (u : va_W) => (∃ (q1 : Nat), (u = [(a0, (oc10 a1 a2 q1)), (q1, (arJ G 24 (fun _ => 0)))]))) (g5_B G (va_A [(a0, .inr (10, [.null, .null, .null]))] sz)) (va_A [(a0, .inr (10, [.null, .null, .null]))] sz)) 1 24 (va_A [(a0, .inr (10, [.null, .null, .null]))] sz) := by
  refine Met.ofW (cc := cX10_init) (maxL := 3) (ret := none) (by decide +kernel) rfl ?_
  intro p e s m args below meth c s₁ B hml hv
  obtain ⟨rfl, hsz, hP, hK, hD0, hN, hT⟩ := hv
  have hx := B.exec
  have hb := B.bytes
  have hr := B.returns
  have hts : ∀ w ∈ tblG, w.before _ s = true := fun w h => atoms_spec (ws := (wsG yX10_init cX10_init 3 none)) B.pre w (List.mem_cons_of_mem _ h)
  have hown : s.vm.findClass RX10 = some m.cls := findClass_of_methodNamed B.named
  have hlocks := B.notSynchronized
  have hin : meth.name = "<init>" := (name_of_methodNamed B.named B.method).1
  subst hsz
  have hD := hD0.self (sz := s.heap.size)
  generalize hAe : va_A [(a0, .inr (10, [.null, .null, .null]))] s.heap.size = A at hD hT ⊢
  have hA : ∀ q : Nat, s.heap.size ≤ q → A q := fun q h => by rw [← hAe]; exact Or.inr h
  have hS : va_S A s.heap s.heap [] := va_S.rf
  replace hP : va_P G.1 vwCl [(a0, .inr (10, [.null, .null, .null]))] s.heap := hP
  have hl := lv_entry ([.ref a0, .ref a1, .ref a2]) (n := 3) (Nat.le_of_ble_eq_true rfl)
  rw [lg_entry_eq]
  generalize (lg_sl ([.ref a0, .ref a1, .ref a2]) ++ List.replicate (3 - (lg_sl ([.ref a0, .ref a1, .ref a2])).length) Slot.unset).toArray = ls at hl ⊢
  replace hl : lv_has ls 3 [(0, .ref a0), (1, .ref a1), (2, .ref a2)] := hl
  refine lv_aload_n hx hb dX10_init_0 rfl (lv_at hl 0 rfl) ?_
  refine W.objInit hx hb hown (hts _ oi_X10_3) (hts _ oi_im) (hts _ oi_cd) rfl (by rw [hml]; exact hl.1) rfl dX10_init_1 (Nat.le_of_ble_eq_true rfl) (Nat.le_of_ble_eq_true rfl) ?_
  refine W.eq (g2 := F0 m 4 ls []) rfl ?_
  refine lv_aload_n hx hb dX10_init_4 rfl (lv_at hl 0 rfl) ?_
  refine lv_bipush (v := 24) hx hb dX10_init_5 (by decide +kernel) ?_
  refine W.eq (g2 := F0 m 7 ls [.int 24, .ref a0]) rfl ?_
  refine va_newa (D := G.1) (atype := .long) (ty := .long) hx hb (hts _ acl_J) rfl hK hP hD hS hA (n := 24) (N' := 24) (a0 := (24, .inr (.inl (fun _ => 0)))) (fun _ => rfl) (by decide +kernel) (by decide +kernel) (by decide +kernel) (Nat.le_of_ble_eq_true rfl) (Nat.le_of_ble_eq_true rfl) dX10_init_7 (fun q1 cA H hKn hP hD hS => ?_)
  obtain rfl : cA = G.2 1 := g5_cJ hKn
  refine g5_rs [(a0, .inr (10, [.null, .null, .null])), (q1, (arJ G 24 (fun _ => 0)))] hP hD ?_
  clear hP hD
  intro hP hD
  refine W.widen (k := 1) (n := 24) (Nat.le_of_ble_eq_true rfl) (Nat.le_of_ble_eq_true rfl) ?_
  refine va_putF (D := G.1) (ci := 10) (v := .ref q1) (ty := .array .long) (C := RX10) (T := TX10) (N := 3) hx hb hts inG_X10 tyX10 tyX10_ok nmX10 hown hK hP hD hS 0 rfl rfl 2 (by decide +kernel) (hts _ fl_X10_9) (fun _ h9 => h9) rfl hin rfl (by decide +kernel) rfl rfl (Nat.le_of_ble_eq_true rfl) dX10_init_9 ?_
  clear hP hD hS
  intro H locs hP hD hS
  refine g5_rs [(a0, .inr (10, [.null, .null, .ref q1])), (q1, (arJ G 24 (fun _ => 0)))] hP hD ?_
  clear hP hD
  intro hP hD
  refine lv_aload_n hx hb dX10_init_12 rfl (lv_at hl 0 rfl) ?_
  refine lv_aload_n hx hb dX10_init_13 rfl (lv_at hl 1 rfl) ?_
  refine va_putF (D := G.1) (ci := 10) (v := .ref a1) (ty := .object "LateGlass$House") (C := RX10) (T := TX10) (N := 3) hx hb hts inG_X10 tyX10 tyX10_ok nmX10 hown hK hP hD hS 0 rfl rfl 0 (by decide +kernel) (hts _ fl_X10_15) (fun _ h9 => h9) rfl hin rfl (by decide +kernel) rfl rfl (Nat.le_of_ble_eq_true rfl) dX10_init_14 ?_
  clear hP hD hS
  intro H locs hP hD hS
  refine g5_rs [(a0, .inr (10, [.ref a1, .null, .ref q1])), (q1, (arJ G 24 (fun _ => 0)))] hP hD ?_
  clear hP hD
  intro hP hD
  refine W.eq (g2 := F0 m 17 ls []) rfl ?_
  refine lv_aload_n hx hb dX10_init_17 rfl (lv_at hl 0 rfl) ?_
  refine lv_aload_n hx hb dX10_init_18 rfl (lv_at hl 2 rfl) ?_
  refine va_putF (D := G.1) (ci := 10) (v := .ref a2) (ty := .object "LateGlass$Look") (C := RX10) (T := TX10) (N := 3) hx hb hts inG_X10 tyX10 tyX10_ok nmX10 hown hK hP hD hS 0 rfl rfl 1 (by decide +kernel) (hts _ fl_X10_19) (fun _ h9 => h9) rfl hin rfl (by decide +kernel) rfl rfl (Nat.le_of_ble_eq_true rfl) dX10_init_19 ?_
  clear hP hD hS
  intro H locs hP hD hS
  refine g5_rs [(a0, (oc10 a1 a2 q1)), (q1, (arJ G 24 (fun _ => 0)))] hP hD ?_
  clear hP hD
  intro hP hD
  exact W.vret hx hb hr (fun t ht hW => ⟨⟨[(a0, (oc10 a1 a2 q1)), (q1, (arJ G 24 (fun _ => 0)))], rfl, ⟨q1, rfl⟩, by rw [ht]; exact hP, hD⟩, hS.F ht⟩) hS.2.2 dX10_init_22
theorem cd_X10_init : Cond.code yX10_init cX10_init 3 none ∈ tblG := tg 298 (by decide +kernel) (by decide +kernel)
theorem gW_X10_init : GoodIn tblG (wsG yX10_init cX10_init 3 none) := tgi cd_X10_init
theorem ml_X11_35 : Cond.methodLink RX11 35 yX10_init ∈ tblG := tg 296 (by decide +kernel) (by decide +kernel)
theorem im_X10_init : Cond.instanceMethod yX10_init ∈ tblG := tg 297 (by decide +kernel) (by decide +kernel)
theorem hs_X10_init : yX10_init.cls ≠ "java/lang/invoke/MethodHandle" ∧ yX10_init.cls ≠ "java/lang/invoke/VarHandle" ∧ (parseMethodDescriptor yX10_init.desc).map (fun d => d.parameters.length) = some 2 := by decide +kernel
theorem cl_X11_42 : Cond.classLink RX11 42 RX7 ∈ tblG := tg 311 (by decide +kernel) (by decide +kernel)
theorem oi_X7_3 : Cond.methodLink RX7 3 objectInit ∈ tblG := tg 316 (by decide +kernel) (by decide +kernel)
theorem dgX7_init_0 : ∀ r ∈ ([(0, (.aload_n 0, 1)), (1, (.invokespecial 3, 3)), (4, (.aload_n 0, 1)), (5, (.bipush 24, 2)), (7, (.newarray .long, 2)), (9, (.putfield 9, 3)), (12, (.aload_n 0, 1)), (13, (.sipush 1536, 3)), (16, (.newarray .int, 2)), (18, (.putfield 15, 3)), (21, (.aload_n 0, 1)), (22, (.sipush 2048, 3)), (25, (.newarray .long, 2)), (27, (.putfield 19, 3)), (30, (.aload_n 0, 1)), (31, (.sipush 2048, 3)), (34, (.newarray .long, 2)), (36, (.putfield 22, 3)), (39, (.aload_n 0, 1)), (40, (.sipush 1536, 3)), (43, (.newarray .int, 2)), (45, (.putfield 25, 3)), (48, (.aload_n 0, 1)), (49, (.bipush 64, 2)), (51, (.newarray .int, 2)), (53, (.putfield 28, 3)), (56, (.aload_n 0, 1)), (57, (.bipush 64, 2)), (59, (.newarray .int, 2)), (61, (.putfield 31, 3)), (64, (.aload_n 0, 1)), (65, (.aload_n 1, 1)), (66, (.putfield 34, 3)), (69, (.aload_n 0, 1)), (70, (.aload_n 2, 1)), (71, (.putfield 38, 3)), (74, (.return_, 1))] : List (Nat × (Instr × Nat))), decode cX7_init r.1 = .ok r.2 := by decide +kernel
theorem dX7_init_0 : decode cX7_init 0 = .ok (.aload_n 0, 1) := dgX7_init_0 (0, (.aload_n 0, 1)) (List.mem_of_getElem? (i := 0) rfl)
theorem dX7_init_1 : decode cX7_init 1 = .ok (.invokespecial 3, 3) := dgX7_init_0 (1, (.invokespecial 3, 3)) (List.mem_of_getElem? (i := 1) rfl)
theorem dX7_init_4 : decode cX7_init 4 = .ok (.aload_n 0, 1) := dgX7_init_0 (4, (.aload_n 0, 1)) (List.mem_of_getElem? (i := 2) rfl)
theorem dX7_init_5 : decode cX7_init 5 = .ok (.bipush 24, 2) := dgX7_init_0 (5, (.bipush 24, 2)) (List.mem_of_getElem? (i := 3) rfl)
theorem dX7_init_7 : decode cX7_init 7 = .ok (.newarray .long, 2) := dgX7_init_0 (7, (.newarray .long, 2)) (List.mem_of_getElem? (i := 4) rfl)
theorem dX7_init_9 : decode cX7_init 9 = .ok (.putfield 9, 3) := dgX7_init_0 (9, (.putfield 9, 3)) (List.mem_of_getElem? (i := 5) rfl)
theorem dX7_init_12 : decode cX7_init 12 = .ok (.aload_n 0, 1) := dgX7_init_0 (12, (.aload_n 0, 1)) (List.mem_of_getElem? (i := 6) rfl)
theorem dX7_init_13 : decode cX7_init 13 = .ok (.sipush 1536, 3) := dgX7_init_0 (13, (.sipush 1536, 3)) (List.mem_of_getElem? (i := 7) rfl)
theorem dX7_init_16 : decode cX7_init 16 = .ok (.newarray .int, 2) := dgX7_init_0 (16, (.newarray .int, 2)) (List.mem_of_getElem? (i := 8) rfl)
theorem dX7_init_18 : decode cX7_init 18 = .ok (.putfield 15, 3) := dgX7_init_0 (18, (.putfield 15, 3)) (List.mem_of_getElem? (i := 9) rfl)
theorem dX7_init_21 : decode cX7_init 21 = .ok (.aload_n 0, 1) := dgX7_init_0 (21, (.aload_n 0, 1)) (List.mem_of_getElem? (i := 10) rfl)
theorem dX7_init_22 : decode cX7_init 22 = .ok (.sipush 2048, 3) := dgX7_init_0 (22, (.sipush 2048, 3)) (List.mem_of_getElem? (i := 11) rfl)
theorem dX7_init_25 : decode cX7_init 25 = .ok (.newarray .long, 2) := dgX7_init_0 (25, (.newarray .long, 2)) (List.mem_of_getElem? (i := 12) rfl)
theorem dX7_init_27 : decode cX7_init 27 = .ok (.putfield 19, 3) := dgX7_init_0 (27, (.putfield 19, 3)) (List.mem_of_getElem? (i := 13) rfl)
theorem dX7_init_30 : decode cX7_init 30 = .ok (.aload_n 0, 1) := dgX7_init_0 (30, (.aload_n 0, 1)) (List.mem_of_getElem? (i := 14) rfl)
theorem dX7_init_31 : decode cX7_init 31 = .ok (.sipush 2048, 3) := dgX7_init_0 (31, (.sipush 2048, 3)) (List.mem_of_getElem? (i := 15) rfl)
theorem dX7_init_34 : decode cX7_init 34 = .ok (.newarray .long, 2) := dgX7_init_0 (34, (.newarray .long, 2)) (List.mem_of_getElem? (i := 16) rfl)
theorem dX7_init_36 : decode cX7_init 36 = .ok (.putfield 22, 3) := dgX7_init_0 (36, (.putfield 22, 3)) (List.mem_of_getElem? (i := 17) rfl)
theorem dX7_init_39 : decode cX7_init 39 = .ok (.aload_n 0, 1) := dgX7_init_0 (39, (.aload_n 0, 1)) (List.mem_of_getElem? (i := 18) rfl)
theorem dX7_init_40 : decode cX7_init 40 = .ok (.sipush 1536, 3) := dgX7_init_0 (40, (.sipush 1536, 3)) (List.mem_of_getElem? (i := 19) rfl)
theorem dX7_init_43 : decode cX7_init 43 = .ok (.newarray .int, 2) := dgX7_init_0 (43, (.newarray .int, 2)) (List.mem_of_getElem? (i := 20) rfl)
theorem dX7_init_45 : decode cX7_init 45 = .ok (.putfield 25, 3) := dgX7_init_0 (45, (.putfield 25, 3)) (List.mem_of_getElem? (i := 21) rfl)
theorem dX7_init_48 : decode cX7_init 48 = .ok (.aload_n 0, 1) := dgX7_init_0 (48, (.aload_n 0, 1)) (List.mem_of_getElem? (i := 22) rfl)
theorem dX7_init_49 : decode cX7_init 49 = .ok (.bipush 64, 2) := dgX7_init_0 (49, (.bipush 64, 2)) (List.mem_of_getElem? (i := 23) rfl)
theorem dX7_init_51 : decode cX7_init 51 = .ok (.newarray .int, 2) := dgX7_init_0 (51, (.newarray .int, 2)) (List.mem_of_getElem? (i := 24) rfl)
theorem dX7_init_53 : decode cX7_init 53 = .ok (.putfield 28, 3) := dgX7_init_0 (53, (.putfield 28, 3)) (List.mem_of_getElem? (i := 25) rfl)
theorem dX7_init_56 : decode cX7_init 56 = .ok (.aload_n 0, 1) := dgX7_init_0 (56, (.aload_n 0, 1)) (List.mem_of_getElem? (i := 26) rfl)
theorem dX7_init_57 : decode cX7_init 57 = .ok (.bipush 64, 2) := dgX7_init_0 (57, (.bipush 64, 2)) (List.mem_of_getElem? (i := 27) rfl)
theorem dX7_init_59 : decode cX7_init 59 = .ok (.newarray .int, 2) := dgX7_init_0 (59, (.newarray .int, 2)) (List.mem_of_getElem? (i := 28) rfl)
theorem dX7_init_61 : decode cX7_init 61 = .ok (.putfield 31, 3) := dgX7_init_0 (61, (.putfield 31, 3)) (List.mem_of_getElem? (i := 29) rfl)
theorem dX7_init_64 : decode cX7_init 64 = .ok (.aload_n 0, 1) := dgX7_init_0 (64, (.aload_n 0, 1)) (List.mem_of_getElem? (i := 30) rfl)
theorem dX7_init_65 : decode cX7_init 65 = .ok (.aload_n 1, 1) := dgX7_init_0 (65, (.aload_n 1, 1)) (List.mem_of_getElem? (i := 31) rfl)
theorem dX7_init_66 : decode cX7_init 66 = .ok (.putfield 34, 3) := dgX7_init_0 (66, (.putfield 34, 3)) (List.mem_of_getElem? (i := 32) rfl)
theorem dX7_init_69 : decode cX7_init 69 = .ok (.aload_n 0, 1) := dgX7_init_0 (69, (.aload_n 0, 1)) (List.mem_of_getElem? (i := 33) rfl)
theorem dX7_init_70 : decode cX7_init 70 = .ok (.aload_n 2, 1) := dgX7_init_0 (70, (.aload_n 2, 1)) (List.mem_of_getElem? (i := 34) rfl)
theorem dX7_init_71 : decode cX7_init 71 = .ok (.putfield 38, 3) := dgX7_init_0 (71, (.putfield 38, 3)) (List.mem_of_getElem? (i := 35) rfl)
theorem dX7_init_74 : decode cX7_init 74 = .ok (.return_, 1) := dgX7_init_0 (74, (.return_, 1)) (List.mem_of_getElem? (i := 36) rfl)
set_option maxHeartbeats 4000000 in
set_option maxRecDepth 100000 in
theorem kX7_init (l : Launch) (G : g5_G) (a0 a1 a2 : Nat) (sz : Nat) : Met l yX7_init (wsG yX7_init cX7_init 3 none) ({ frames := 1, cells := 7, slots := 7320, locals := 12 }) (va_Pc [.ref a0, .ref a1, .ref a2] (g5_P G [(a0, .inr (7, [.null, .null, .null, .null, .int 0, .null, .null, .null, .null, .null]))] sz)) (va_Qv (fun (u : va_W) => (∃ (q1 : Nat) (q2 : Nat) (q3 : Nat) (q4 : Nat) (q5 : Nat) (q6 : Nat) (q7 : Nat), (u = [(a0, (oc7 a1 a2 q1 q2 0 q3 q4 q5 q6 q7)), (q1, (arJ G 24 (fun _ => 0))), (q2, (arI G 1536 (fun _ => 0))), (q3, (arJ G 2048 (fun _ => 0))), (q4, (arJ G 2048 (fun _ => 0))), (q5, (arI G 1536 (fun _ => 0))), (q6, (arI G 64 (fun _ => 0))), (q7, (arI G 64 (fun _ => 0)))]))) (g5_B G (va_A [(a0, .inr (7, [.null, .null, .null, .null, .int 0, .null, .null, .null, .null, .null]))] sz)) (va_A [(a0, .inr (7, [.null, .null, .null, .null, .int 0, .null, .null, .null, .null, .null]))] sz)) 7 7320 (va_A [(a0, .inr (7, [.null, .null, .null, .null, .int 0, .null, .null, .null, .null, .null]))] sz) := by
  refine Met.ofW (cc := cX7_init) (maxL := 3) (ret := none) (by decide +kernel) rfl ?_
  intro p e s m args below meth c s₁ B hml hv
  obtain ⟨rfl, hsz, hP, hK, hD0, hN, hT⟩ := hv
  have hx := B.exec
  have hb := B.bytes
  have hr := B.returns
  have hts : ∀ w ∈ tblG, w.before _ s = true := fun w h => atoms_spec (ws := (wsG yX7_init cX7_init 3 none)) B.pre w (List.mem_cons_of_mem _ h)
  have hown : s.vm.findClass RX7 = some m.cls := findClass_of_methodNamed B.named
  have hlocks := B.notSynchronized
  have hin : meth.name = "<init>" := (name_of_methodNamed B.named B.method).1
  subst hsz
  have hD := hD0.self (sz := s.heap.size)
  generalize hAe : va_A [(a0, .inr (7, [.null, .null, .null, .null, .int 0, .null, .null, .null, .null, .null]))] s.heap.size = A at hD hT ⊢
  have hA : ∀ q : Nat, s.heap.size ≤ q → A q := fun q h => by rw [← hAe]; exact Or.inr h
  have hS : va_S A s.heap s.heap [] := va_S.rf
  replace hP : va_P G.1 vwCl [(a0, .inr (7, [.null, .null, .null, .null, .int 0, .null, .null, .null, .null, .null]))] s.heap := hP
  have hl := lv_entry ([.ref a0, .ref a1, .ref a2]) (n := 3) (Nat.le_of_ble_eq_true rfl)
  rw [lg_entry_eq]
  generalize (lg_sl ([.ref a0, .ref a1, .ref a2]) ++ List.replicate (3 - (lg_sl ([.ref a0, .ref a1, .ref a2])).length) Slot.unset).toArray = ls at hl ⊢
  replace hl : lv_has ls 3 [(0, .ref a0), (1, .ref a1), (2, .ref a2)] := hl
  refine lv_aload_n hx hb dX7_init_0 rfl (lv_at hl 0 rfl) ?_
  refine W.objInit hx hb hown (hts _ oi_X7_3) (hts _ oi_im) (hts _ oi_cd) rfl (by rw [hml]; exact hl.1) rfl dX7_init_1 (Nat.le_of_ble_eq_true rfl) (Nat.le_of_ble_eq_true rfl) ?_
  refine W.eq (g2 := F0 m 4 ls []) rfl ?_
  refine lv_aload_n hx hb dX7_init_4 rfl (lv_at hl 0 rfl) ?_
  refine lv_bipush (v := 24) hx hb dX7_init_5 (by decide +kernel) ?_
  refine W.eq (g2 := F0 m 7 ls [.int 24, .ref a0]) rfl ?_
  refine va_newa (D := G.1) (atype := .long) (ty := .long) hx hb (hts _ acl_J) rfl hK hP hD hS hA (n := 24) (N' := 24) (a0 := (24, .inr (.inl (fun _ => 0)))) (fun _ => rfl) (by decide +kernel) (by decide +kernel) (by decide +kernel) (Nat.le_of_ble_eq_true rfl) (Nat.le_of_ble_eq_true rfl) dX7_init_7 (fun q1 cA H hKn hP hD hS => ?_)
  obtain rfl : cA = G.2 1 := g5_cJ hKn
  refine g5_rs [(a0, .inr (7, [.null, .null, .null, .null, .int 0, .null, .null, .null, .null, .null])), (q1, (arJ G 24 (fun _ => 0)))] hP hD ?_
  clear hP hD
  intro hP hD
  refine W.widen (k := 1) (n := 24) (Nat.le_of_ble_eq_true rfl) (Nat.le_of_ble_eq_true rfl) ?_
  refine va_putF (D := G.1) (ci := 7) (v := .ref q1) (ty := .array .long) (C := RX7) (T := TX7) (N := 10) hx hb hts inG_X7 tyX7 tyX7_ok nmX7 hown hK hP hD hS 0 rfl rfl 2 (by decide +kernel) (hts _ fl_X7_9) (fun _ h9 => h9) rfl hin rfl (by decide +kernel) rfl rfl (Nat.le_of_ble_eq_true rfl) dX7_init_9 ?_
  clear hP hD hS
  intro H locs hP hD hS
  refine g5_rs [(a0, .inr (7, [.null, .null, .ref q1, .null, .int 0, .null, .null, .null, .null, .null])), (q1, (arJ G 24 (fun _ => 0)))] hP hD ?_
  clear hP hD
  intro hP hD
  refine lv_aload_n hx hb dX7_init_12 rfl (lv_at hl 0 rfl) ?_
  refine lv_sipush (v := 1536) hx hb dX7_init_13 (by decide +kernel) ?_
  refine va_newa (D := G.1) (atype := .int) (ty := .int) hx hb (hts _ acl_I) rfl hK hP hD hS hA (n := 1536) (N' := 1536) (a0 := (1536, .inl (fun _ => 0))) (fun _ => rfl) (by decide +kernel) (by decide +kernel) (by decide +kernel) (Nat.le_of_ble_eq_true rfl) (Nat.le_of_ble_eq_true rfl) dX7_init_16 (fun q2 cA H hKn hP hD hS => ?_)
  obtain rfl : cA = G.2 0 := g5_cI hKn
  refine g5_rs [(a0, .inr (7, [.null, .null, .ref q1, .null, .int 0, .null, .null, .null, .null, .null])), (q1, (arJ G 24 (fun _ => 0))), (q2, (arI G 1536 (fun _ => 0)))] hP hD ?_
  clear hP hD
  intro hP hD
  refine W.widen (k := 2) (n := 1560) (Nat.le_of_ble_eq_true rfl) (Nat.le_of_ble_eq_true rfl) ?_
  refine W.eq (g2 := F0 m 18 ls [.ref q2, .ref a0]) rfl ?_
  refine va_putF (D := G.1) (ci := 7) (v := .ref q2) (ty := .array .int) (C := RX7) (T := TX7) (N := 10) hx hb hts inG_X7 tyX7 tyX7_ok nmX7 hown hK hP hD hS 0 rfl rfl 3 (by decide +kernel) (hts _ fl_X7_15) (fun _ h9 => h9) rfl hin rfl (by decide +kernel) rfl rfl (Nat.le_of_ble_eq_true rfl) dX7_init_18 ?_
  clear hP hD hS
  intro H locs hP hD hS
  refine g5_rs [(a0, .inr (7, [.null, .null, .ref q1, .ref q2, .int 0, .null, .null, .null, .null, .null])), (q1, (arJ G 24 (fun _ => 0))), (q2, (arI G 1536 (fun _ => 0)))] hP hD ?_
  clear hP hD
  intro hP hD
  refine lv_aload_n hx hb dX7_init_21 rfl (lv_at hl 0 rfl) ?_
  refine lv_sipush (v := 2048) hx hb dX7_init_22 (by decide +kernel) ?_
  refine va_newa (D := G.1) (atype := .long) (ty := .long) hx hb (hts _ acl_J) rfl hK hP hD hS hA (n := 2048) (N' := 2048) (a0 := (2048, .inr (.inl (fun _ => 0)))) (fun _ => rfl) (by decide +kernel) (by decide +kernel) (by decide +kernel) (Nat.le_of_ble_eq_true rfl) (Nat.le_of_ble_eq_true rfl) dX7_init_25 (fun q3 cA H hKn hP hD hS => ?_)
  obtain rfl : cA = G.2 1 := g5_cJ hKn
  refine g5_rs [(a0, .inr (7, [.null, .null, .ref q1, .ref q2, .int 0, .null, .null, .null, .null, .null])), (q1, (arJ G 24 (fun _ => 0))), (q2, (arI G 1536 (fun _ => 0))), (q3, (arJ G 2048 (fun _ => 0)))] hP hD ?_
  clear hP hD
  intro hP hD
  refine W.widen (k := 3) (n := 3608) (Nat.le_of_ble_eq_true rfl) (Nat.le_of_ble_eq_true rfl) ?_
  refine va_put (D := G.1) (ci := 7) (v := .ref q3) (ty := .array .long) (C := RX7) (T := TX7) (N := 10) hx hb hts inG_X7 tyX7 tyX7_ok nmX7 hown hK hP hD hS 0 rfl rfl 5 (by decide +kernel) (hts _ fl_X7_19) (fun _ h9 => h9) rfl (by decide +kernel) rfl rfl (Nat.le_of_ble_eq_true rfl) dX7_init_27 ?_
  clear hP hD hS
  intro H locs hP hD hS
  refine g5_rs [(a0, .inr (7, [.null, .null, .ref q1, .ref q2, .int 0, .ref q3, .null, .null, .null, .null])), (q1, (arJ G 24 (fun _ => 0))), (q2, (arI G 1536 (fun _ => 0))), (q3, (arJ G 2048 (fun _ => 0)))] hP hD ?_
  clear hP hD
  intro hP hD
  refine W.eq (g2 := F0 m 30 ls []) rfl ?_
  refine lv_aload_n hx hb dX7_init_30 rfl (lv_at hl 0 rfl) ?_
  refine lv_sipush (v := 2048) hx hb dX7_init_31 (by decide +kernel) ?_
  refine va_newa (D := G.1) (atype := .long) (ty := .long) hx hb (hts _ acl_J) rfl hK hP hD hS hA (n := 2048) (N' := 2048) (a0 := (2048, .inr (.inl (fun _ => 0)))) (fun _ => rfl) (by decide +kernel) (by decide +kernel) (by decide +kernel) (Nat.le_of_ble_eq_true rfl) (Nat.le_of_ble_eq_true rfl) dX7_init_34 (fun q4 cA H hKn hP hD hS => ?_)
  obtain rfl : cA = G.2 1 := g5_cJ hKn
  refine g5_rs [(a0, .inr (7, [.null, .null, .ref q1, .ref q2, .int 0, .ref q3, .null, .null, .null, .null])), (q1, (arJ G 24 (fun _ => 0))), (q2, (arI G 1536 (fun _ => 0))), (q3, (arJ G 2048 (fun _ => 0))), (q4, (arJ G 2048 (fun _ => 0)))] hP hD ?_
  clear hP hD
  intro hP hD
  refine W.widen (k := 4) (n := 5656) (Nat.le_of_ble_eq_true rfl) (Nat.le_of_ble_eq_true rfl) ?_
  refine va_put (D := G.1) (ci := 7) (v := .ref q4) (ty := .array .long) (C := RX7) (T := TX7) (N := 10) hx hb hts inG_X7 tyX7 tyX7_ok nmX7 hown hK hP hD hS 0 rfl rfl 6 (by decide +kernel) (hts _ fl_X7_22) (fun _ h9 => h9) rfl (by decide +kernel) rfl rfl (Nat.le_of_ble_eq_true rfl) dX7_init_36 ?_
  clear hP hD hS
  intro H locs hP hD hS
  refine g5_rs [(a0, .inr (7, [.null, .null, .ref q1, .ref q2, .int 0, .ref q3, .ref q4, .null, .null, .null])), (q1, (arJ G 24 (fun _ => 0))), (q2, (arI G 1536 (fun _ => 0))), (q3, (arJ G 2048 (fun _ => 0))), (q4, (arJ G 2048 (fun _ => 0)))] hP hD ?_
  clear hP hD
  intro hP hD
  refine lv_aload_n hx hb dX7_init_39 rfl (lv_at hl 0 rfl) ?_
  refine W.eq (g2 := F0 m 40 ls [.ref a0]) rfl ?_
  refine lv_sipush (v := 1536) hx hb dX7_init_40 (by decide +kernel) ?_
  refine va_newa (D := G.1) (atype := .int) (ty := .int) hx hb (hts _ acl_I) rfl hK hP hD hS hA (n := 1536) (N' := 1536) (a0 := (1536, .inl (fun _ => 0))) (fun _ => rfl) (by decide +kernel) (by decide +kernel) (by decide +kernel) (Nat.le_of_ble_eq_true rfl) (Nat.le_of_ble_eq_true rfl) dX7_init_43 (fun q5 cA H hKn hP hD hS => ?_)
  obtain rfl : cA = G.2 0 := g5_cI hKn
  refine g5_rs [(a0, .inr (7, [.null, .null, .ref q1, .ref q2, .int 0, .ref q3, .ref q4, .null, .null, .null])), (q1, (arJ G 24 (fun _ => 0))), (q2, (arI G 1536 (fun _ => 0))), (q3, (arJ G 2048 (fun _ => 0))), (q4, (arJ G 2048 (fun _ => 0))), (q5, (arI G 1536 (fun _ => 0)))] hP hD ?_
  clear hP hD
  intro hP hD
  refine W.widen (k := 5) (n := 7192) (Nat.le_of_ble_eq_true rfl) (Nat.le_of_ble_eq_true rfl) ?_
  refine va_putF (D := G.1) (ci := 7) (v := .ref q5) (ty := .array .int) (C := RX7) (T := TX7) (N := 10) hx hb hts inG_X7 tyX7 tyX7_ok nmX7 hown hK hP hD hS 0 rfl rfl 7 (by decide +kernel) (hts _ fl_X7_25) (fun _ h9 => h9) rfl hin rfl (by decide +kernel) rfl rfl (Nat.le_of_ble_eq_true rfl) dX7_init_45 ?_
  clear hP hD hS
  intro H locs hP hD hS
  refine g5_rs [(a0, .inr (7, [.null, .null, .ref q1, .ref q2, .int 0, .ref q3, .ref q4, .ref q5, .null, .null])), (q1, (arJ G 24 (fun _ => 0))), (q2, (arI G 1536 (fun _ => 0))), (q3, (arJ G 2048 (fun _ => 0))), (q4, (arJ G 2048 (fun _ => 0))), (q5, (arI G 1536 (fun _ => 0)))] hP hD ?_
  clear hP hD
  intro hP hD
  refine lv_aload_n hx hb dX7_init_48 rfl (lv_at hl 0 rfl) ?_
  refine lv_bipush (v := 64) hx hb dX7_init_49 (by decide +kernel) ?_
  refine W.eq (g2 := F0 m 51 ls [.int 64, .ref a0]) rfl ?_
  refine va_newa (D := G.1) (atype := .int) (ty := .int) hx hb (hts _ acl_I) rfl hK hP hD hS hA (n := 64) (N' := 64) (a0 := (64, .inl (fun _ => 0))) (fun _ => rfl) (by decide +kernel) (by decide +kernel) (by decide +kernel) (Nat.le_of_ble_eq_true rfl) (Nat.le_of_ble_eq_true rfl) dX7_init_51 (fun q6 cA H hKn hP hD hS => ?_)
  obtain rfl : cA = G.2 0 := g5_cI hKn
  refine g5_rs [(a0, .inr (7, [.null, .null, .ref q1, .ref q2, .int 0, .ref q3, .ref q4, .ref q5, .null, .null])), (q1, (arJ G 24 (fun _ => 0))), (q2, (arI G 1536 (fun _ => 0))), (q3, (arJ G 2048 (fun _ => 0))), (q4, (arJ G 2048 (fun _ => 0))), (q5, (arI G 1536 (fun _ => 0))), (q6, (arI G 64 (fun _ => 0)))] hP hD ?_
  clear hP hD
  intro hP hD
  refine W.widen (k := 6) (n := 7256) (Nat.le_of_ble_eq_true rfl) (Nat.le_of_ble_eq_true rfl) ?_
  refine va_putF (D := G.1) (ci := 7) (v := .ref q6) (ty := .array .int) (C := RX7) (T := TX7) (N := 10) hx hb hts inG_X7 tyX7 tyX7_ok nmX7 hown hK hP hD hS 0 rfl rfl 8 (by decide +kernel) (hts _ fl_X7_28) (fun _ h9 => h9) rfl hin rfl (by decide +kernel) rfl rfl (Nat.le_of_ble_eq_true rfl) dX7_init_53 ?_
  clear hP hD hS
  intro H locs hP hD hS
  refine g5_rs [(a0, .inr (7, [.null, .null, .ref q1, .ref q2, .int 0, .ref q3, .ref q4, .ref q5, .ref q6, .null])), (q1, (arJ G 24 (fun _ => 0))), (q2, (arI G 1536 (fun _ => 0))), (q3, (arJ G 2048 (fun _ => 0))), (q4, (arJ G 2048 (fun _ => 0))), (q5, (arI G 1536 (fun _ => 0))), (q6, (arI G 64 (fun _ => 0)))] hP hD ?_
  clear hP hD
  intro hP hD
  refine lv_aload_n hx hb dX7_init_56 rfl (lv_at hl 0 rfl) ?_
  refine lv_bipush (v := 64) hx hb dX7_init_57 (by decide +kernel) ?_
  refine va_newa (D := G.1) (atype := .int) (ty := .int) hx hb (hts _ acl_I) rfl hK hP hD hS hA (n := 64) (N' := 64) (a0 := (64, .inl (fun _ => 0))) (fun _ => rfl) (by decide +kernel) (by decide +kernel) (by decide +kernel) (Nat.le_of_ble_eq_true rfl) (Nat.le_of_ble_eq_true rfl) dX7_init_59 (fun q7 cA H hKn hP hD hS => ?_)
  obtain rfl : cA = G.2 0 := g5_cI hKn
  refine g5_rs [(a0, .inr (7, [.null, .null, .ref q1, .ref q2, .int 0, .ref q3, .ref q4, .ref q5, .ref q6, .null])), (q1, (arJ G 24 (fun _ => 0))), (q2, (arI G 1536 (fun _ => 0))), (q3, (arJ G 2048 (fun _ => 0))), (q4, (arJ G 2048 (fun _ => 0))), (q5, (arI G 1536 (fun _ => 0))), (q6, (arI G 64 (fun _ => 0))), (q7, (arI G 64 (fun _ => 0)))] hP hD ?_
  clear hP hD
  intro hP hD
  refine W.widen (k := 7) (n := 7320) (Nat.le_of_ble_eq_true rfl) (Nat.le_of_ble_eq_true rfl) ?_
  refine W.eq (g2 := F0 m 61 ls [.ref q7, .ref a0]) rfl ?_
  refine va_putF (D := G.1) (ci := 7) (v := .ref q7) (ty := .array .int) (C := RX7) (T := TX7) (N := 10) hx hb hts inG_X7 tyX7 tyX7_ok nmX7 hown hK hP hD hS 0 rfl rfl 9 (by decide +kernel) (hts _ fl_X7_31) (fun _ h9 => h9) rfl hin rfl (by decide +kernel) rfl rfl (Nat.le_of_ble_eq_true rfl) dX7_init_61 ?_
  clear hP hD hS
  intro H locs hP hD hS
  refine g5_rs [(a0, .inr (7, [.null, .null, .ref q1, .ref q2, .int 0, .ref q3, .ref q4, .ref q5, .ref q6, .ref q7])), (q1, (arJ G 24 (fun _ => 0))), (q2, (arI G 1536 (fun _ => 0))), (q3, (arJ G 2048 (fun _ => 0))), (q4, (arJ G 2048 (fun _ => 0))), (q5, (arI G 1536 (fun _ => 0))), (q6, (arI G 64 (fun _ => 0))), (q7, (arI G 64 (fun _ => 0)))] hP hD ?_
  clear hP hD
  intro hP hD
  refine lv_aload_n hx hb dX7_init_64 rfl (lv_at hl 0 rfl) ?_
  refine lv_aload_n hx hb dX7_init_65 rfl (lv_at hl 1 rfl) ?_
  refine va_putF (D := G.1) (ci := 7) (v := .ref a1) (ty := .object "LateGlass$House") (C := RX7) (T := TX7) (N := 10) hx hb hts inG_X7 tyX7 tyX7_ok nmX7 hown hK hP hD hS 0 rfl rfl 0 (by decide +kernel) (hts _ fl_X7_34) (fun _ h9 => h9) rfl hin rfl (by decide +kernel) rfl rfl (Nat.le_of_ble_eq_true rfl) dX7_init_66 ?_
  clear hP hD hS
  intro H locs hP hD hS
  refine g5_rs [(a0, .inr (7, [.ref a1, .null, .ref q1, .ref q2, .int 0, .ref q3, .ref q4, .ref q5, .ref q6, .ref q7])), (q1, (arJ G 24 (fun _ => 0))), (q2, (arI G 1536 (fun _ => 0))), (q3, (arJ G 2048 (fun _ => 0))), (q4, (arJ G 2048 (fun _ => 0))), (q5, (arI G 1536 (fun _ => 0))), (q6, (arI G 64 (fun _ => 0))), (q7, (arI G 64 (fun _ => 0)))] hP hD ?_
  clear hP hD
  intro hP hD
  refine lv_aload_n hx hb dX7_init_69 rfl (lv_at hl 0 rfl) ?_
  refine W.eq (g2 := F0 m 70 ls [.ref a0]) rfl ?_
  refine lv_aload_n hx hb dX7_init_70 rfl (lv_at hl 2 rfl) ?_
  refine va_putF (D := G.1) (ci := 7) (v := .ref a2) (ty := .object "LateGlass$Look") (C := RX7) (T := TX7) (N := 10) hx hb hts inG_X7 tyX7 tyX7_ok nmX7 hown hK hP hD hS 0 rfl rfl 1 (by decide +kernel) (hts _ fl_X7_38) (fun _ h9 => h9) rfl hin rfl (by decide +kernel) rfl rfl (Nat.le_of_ble_eq_true rfl) dX7_init_71 ?_
  clear hP hD hS
  intro H locs hP hD hS
  refine g5_rs [(a0, (oc7 a1 a2 q1 q2 0 q3 q4 q5 q6 q7)), (q1, (arJ G 24 (fun _ => 0))), (q2, (arI G 1536 (fun _ => 0))), (q3, (arJ G 2048 (fun _ => 0))), (q4, (arJ G 2048 (fun _ => 0))), (q5, (arI G 1536 (fun _ => 0))), (q6, (arI G 64 (fun _ => 0))), (q7, (arI G 64 (fun _ => 0)))] hP hD ?_
  clear hP hD
  intro hP hD
  exact W.vret hx hb hr (fun t ht hW => ⟨⟨[(a0, (oc7 a1 a2 q1 q2 0 q3 q4 q5 q6 q7)), (q1, (arJ G 24 (fun _ => 0))), (q2, (arI G 1536 (fun _ => 0))), (q3, (arJ G 2048 (fun _ => 0))), (q4, (arJ G 2048 (fun _ => 0))), (q5, (arI G 1536 (fun _ => 0))), (q6, (arI G 64 (fun _ => 0))), (q7, (arI G 64 (fun _ => 0)))], rfl, ⟨q1, q2, q3, q4, q5, q6, q7, rfl⟩, by rw [ht]; exact hP, hD⟩, hS.F ht⟩) hS.2.2 dX7_init_74
theorem cd_X7_init : Cond.code yX7_init cX7_init 3 none ∈ tblG := tg 315 (by decide +kernel) (by decide +kernel)
theorem gW_X7_init : GoodIn tblG (wsG yX7_init cX7_init 3 none) := tgi cd_X7_init
theorem ml_X11_44 : Cond.methodLink RX11 44 yX7_init ∈ tblG := tg 313 (by decide +kernel) (by decide +kernel)
theorem im_X7_init : Cond.instanceMethod yX7_init ∈ tblG := tg 314 (by decide +kernel) (by decide +kernel)
theorem hs_X7_init : yX7_init.cls ≠ "java/lang/invoke/MethodHandle" ∧ yX7_init.cls ≠ "java/lang/invoke/VarHandle" ∧ (parseMethodDescriptor yX7_init.desc).map (fun d => d.parameters.length) = some 2 := by decide +kernel
theorem cl_X11_49 : Cond.classLink RX11 49 RX0 ∈ tblG := tg 349 (by decide +kernel) (by decide +kernel)
theorem oi_X0_3 : Cond.methodLink RX0 3 objectInit ∈ tblG := tg 354 (by decide +kernel) (by decide +kernel)
theorem dgX0_init_0 : ∀ r ∈ ([(0, (.aload_n 0, 1)), (1, (.invokespecial 3, 3)), (4, (.aload_n 0, 1)), (5, (.aload_n 1, 1)), (6, (.putfield 9, 3)), (9, (.aload_n 0, 1)), (10, (.aload_n 2, 1)), (11, (.putfield 15, 3)), (14, (.return_, 1))] : List (Nat × (Instr × Nat))), decode cX0_init r.1 = .ok r.2 := by decide +kernel
theorem dX0_init_0 : decode cX0_init 0 = .ok (.aload_n 0, 1) := dgX0_init_0 (0, (.aload_n 0, 1)) (List.mem_of_getElem? (i := 0) rfl)
theorem dX0_init_1 : decode cX0_init 1 = .ok (.invokespecial 3, 3) := dgX0_init_0 (1, (.invokespecial 3, 3)) (List.mem_of_getElem? (i := 1) rfl)
theorem dX0_init_4 : decode cX0_init 4 = .ok (.aload_n 0, 1) := dgX0_init_0 (4, (.aload_n 0, 1)) (List.mem_of_getElem? (i := 2) rfl)
theorem dX0_init_5 : decode cX0_init 5 = .ok (.aload_n 1, 1) := dgX0_init_0 (5, (.aload_n 1, 1)) (List.mem_of_getElem? (i := 3) rfl)
theorem dX0_init_6 : decode cX0_init 6 = .ok (.putfield 9, 3) := dgX0_init_0 (6, (.putfield 9, 3)) (List.mem_of_getElem? (i := 4) rfl)
theorem dX0_init_9 : decode cX0_init 9 = .ok (.aload_n 0, 1) := dgX0_init_0 (9, (.aload_n 0, 1)) (List.mem_of_getElem? (i := 5) rfl)
theorem dX0_init_10 : decode cX0_init 10 = .ok (.aload_n 2, 1) := dgX0_init_0 (10, (.aload_n 2, 1)) (List.mem_of_getElem? (i := 6) rfl)
theorem dX0_init_11 : decode cX0_init 11 = .ok (.putfield 15, 3) := dgX0_init_0 (11, (.putfield 15, 3)) (List.mem_of_getElem? (i := 7) rfl)
theorem dX0_init_14 : decode cX0_init 14 = .ok (.return_, 1) := dgX0_init_0 (14, (.return_, 1)) (List.mem_of_getElem? (i := 8) rfl)
set_option maxHeartbeats 4000000 in
set_option maxRecDepth 100000 in
theorem kX0_init (l : Launch) (G : g5_G) (a0 a1 a2 : Nat) (sz : Nat) : Met l yX0_init (wsG yX0_init cX0_init 3 none) ({ frames := 1, cells := 0, slots := 0, locals := 12 }) (va_Pc [.ref a0, .ref a1, .ref a2] (g5_P G [(a0, .inr (0, [.null, .null, .int 0, .int 0, .int 0]))] sz)) (va_Qv (fun (u : va_W) => ((u = [(a0, (oc0 a1 a2 0 0 0))]))) (g5_B G (va_A [(a0, .inr (0, [.null, .null, .int 0, .int 0, .int 0]))] sz)) (va_A [(a0, .inr (0, [.null, .null, .int 0, .int 0, .int 0]))] sz)) 0 0 (va_A [(a0, .inr (0, [.null, .null, .int 0, .int 0, .int 0]))] sz) := by
  refine Met.ofW (cc := cX0_init) (maxL := 3) (ret := none) (by decide +kernel) rfl ?_
  intro p e s m args below meth c s₁ B hml hv
  obtain ⟨rfl, hsz, hP, hK, hD0, hN, hT⟩ := hv
  have hx := B.exec
  have hb := B.bytes
  have hr := B.returns
  have hts : ∀ w ∈ tblG, w.before _ s = true := fun w h => atoms_spec (ws := (wsG yX0_init cX0_init 3 none)) B.pre w (List.mem_cons_of_mem _ h)
  have hown : s.vm.findClass RX0 = some m.cls := findClass_of_methodNamed B.named
  have hlocks := B.notSynchronized
  have hin : meth.name = "<init>" := (name_of_methodNamed B.named B.method).1
  subst hsz
  have hD := hD0.self (sz := s.heap.size)
  generalize hAe : va_A [(a0, .inr (0, [.null, .null, .int 0, .int 0, .int 0]))] s.heap.size = A at hD hT ⊢
  have hA : ∀ q : Nat, s.heap.size ≤ q → A q := fun q h => by rw [← hAe]; exact Or.inr h
  have hS : va_S A s.heap s.heap [] := va_S.rf
  replace hP : va_P G.1 vwCl [(a0, .inr (0, [.null, .null, .int 0, .int 0, .int 0]))] s.heap := hP
  have hl := lv_entry ([.ref a0, .ref a1, .ref a2]) (n := 3) (Nat.le_of_ble_eq_true rfl)
  rw [lg_entry_eq]
  generalize (lg_sl ([.ref a0, .ref a1, .ref a2]) ++ List.replicate (3 - (lg_sl ([.ref a0, .ref a1, .ref a2])).length) Slot.unset).toArray = ls at hl ⊢
  replace hl : lv_has ls 3 [(0, .ref a0), (1, .ref a1), (2, .ref a2)] := hl
  refine lv_aload_n hx hb dX0_init_0 rfl (lv_at hl 0 rfl) ?_
  refine W.objInit hx hb hown (hts _ oi_X0_3) (hts _ oi_im) (hts _ oi_cd) rfl (by rw [hml]; exact hl.1) rfl dX0_init_1 (Nat.le_of_ble_eq_true rfl) (Nat.le_of_ble_eq_true rfl) ?_
  refine W.eq (g2 := F0 m 4 ls []) rfl ?_
  refine lv_aload_n hx hb dX0_init_4 rfl (lv_at hl 0 rfl) ?_
  refine lv_aload_n hx hb dX0_init_5 rfl (lv_at hl 1 rfl) ?_
  refine W.eq (g2 := F0 m 6 ls [.ref a1, .ref a0]) rfl ?_
  refine va_putF (D := G.1) (ci := 0) (v := .ref a1) (ty := .object "LateGlass$House") (C := RX0) (T := TX0) (N := 5) hx hb hts inG_X0 tyX0 tyX0_ok nmX0 hown hK hP hD hS 0 rfl rfl 0 (by decide +kernel) (hts _ fl_X0_9) (fun _ h9 => h9) rfl hin rfl (by decide +kernel) rfl rfl (Nat.le_of_ble_eq_true rfl) dX0_init_6 ?_
  clear hP hD hS
  intro H locs hP hD hS
  refine g5_rs [(a0, .inr (0, [.ref a1, .null, .int 0, .int 0, .int 0]))] hP hD ?_
  clear hP hD
  intro hP hD
  refine lv_aload_n hx hb dX0_init_9 rfl (lv_at hl 0 rfl) ?_
  refine lv_aload_n hx hb dX0_init_10 rfl (lv_at hl 2 rfl) ?_
  refine va_putF (D := G.1) (ci := 0) (v := .ref a2) (ty := .object "LateGlass$Look") (C := RX0) (T := TX0) (N := 5) hx hb hts inG_X0 tyX0 tyX0_ok nmX0 hown hK hP hD hS 0 rfl rfl 1 (by decide +kernel) (hts _ fl_X0_15) (fun _ h9 => h9) rfl hin rfl (by decide +kernel) rfl rfl (Nat.le_of_ble_eq_true rfl) dX0_init_11 ?_
  clear hP hD hS
  intro H locs hP hD hS
  refine g5_rs [(a0, (oc0 a1 a2 0 0 0))] hP hD ?_
  clear hP hD
  intro hP hD
  exact W.vret hx hb hr (fun t ht hW => ⟨⟨[(a0, (oc0 a1 a2 0 0 0))], rfl, rfl, by rw [ht]; exact hP, hD⟩, hS.F ht⟩) hS.2.2 dX0_init_14
theorem cd_X0_init : Cond.code yX0_init cX0_init 3 none ∈ tblG := tg 353 (by decide +kernel) (by decide +kernel)
theorem gW_X0_init : GoodIn tblG (wsG yX0_init cX0_init 3 none) := tgi cd_X0_init
theorem ml_X11_51 : Cond.methodLink RX11 51 yX0_init ∈ tblG := tg 351 (by decide +kernel) (by decide +kernel)
theorem im_X0_init : Cond.instanceMethod yX0_init ∈ tblG := tg 352 (by decide +kernel) (by decide +kernel)
theorem hs_X0_init : yX0_init.cls ≠ "java/lang/invoke/MethodHandle" ∧ yX0_init.cls ≠ "java/lang/invoke/VarHandle" ∧ (parseMethodDescriptor yX0_init.desc).map (fun d => d.parameters.length) = some 2 := by decide +kernel
theorem cl_X11_56 : Cond.classLink RX11 56 RX9 ∈ tblG := tg 374 (by decide +kernel) (by decide +kernel)
theorem oi_X9_3 : Cond.methodLink RX9 3 objectInit ∈ tblG := tg 379 (by decide +kernel) (by decide +kernel)
theorem dgX9_init_0 : ∀ r ∈ ([(0, (.aload_n 0, 1)), (1, (.invokespecial 3, 3)), (4, (.aload_n 0, 1)), (5, (.bipush 24, 2)), (7, (.newarray .long, 2)), (9, (.putfield 9, 3)), (12, (.aload_n 0, 1)), (13, (.sipush 1536, 3)), (16, (.newarray .int, 2)), (18, (.putfield 15, 3)), (21, (.aload_n 0, 1)), (22, (.aload_n 1, 1)), (23, (.putfield 19, 3)), (26, (.aload_n 0, 1)), (27, (.aload_n 2, 1)), (28, (.putfield 23, 3)), (31, (.return_, 1))] : List (Nat × (Instr × Nat))), decode cX9_init r.1 = .ok r.2 := by decide +kernel
theorem dX9_init_0 : decode cX9_init 0 = .ok (.aload_n 0, 1) := dgX9_init_0 (0, (.aload_n 0, 1)) (List.mem_of_getElem? (i := 0) rfl)
theorem dX9_init_1 : decode cX9_init 1 = .ok (.invokespecial 3, 3) := dgX9_init_0 (1, (.invokespecial 3, 3)) (List.mem_of_getElem? (i := 1) rfl)
theorem dX9_init_4 : decode cX9_init 4 = .ok (.aload_n 0, 1) := dgX9_init_0 (4, (.aload_n 0, 1)) (List.mem_of_getElem? (i := 2) rfl)
theorem dX9_init_5 : decode cX9_init 5 = .ok (.bipush 24, 2) := dgX9_init_0 (5, (.bipush 24, 2)) (List.mem_of_getElem? (i := 3) rfl)
theorem dX9_init_7 : decode cX9_init 7 = .ok (.newarray .long, 2) := dgX9_init_0 (7, (.newarray .long, 2)) (List.mem_of_getElem? (i := 4) rfl)
theorem dX9_init_9 : decode cX9_init 9 = .ok (.putfield 9, 3) := dgX9_init_0 (9, (.putfield 9, 3)) (List.mem_of_getElem? (i := 5) rfl)
theorem dX9_init_12 : decode cX9_init 12 = .ok (.aload_n 0, 1) := dgX9_init_0 (12, (.aload_n 0, 1)) (List.mem_of_getElem? (i := 6) rfl)
theorem dX9_init_13 : decode cX9_init 13 = .ok (.sipush 1536, 3) := dgX9_init_0 (13, (.sipush 1536, 3)) (List.mem_of_getElem? (i := 7) rfl)
theorem dX9_init_16 : decode cX9_init 16 = .ok (.newarray .int, 2) := dgX9_init_0 (16, (.newarray .int, 2)) (List.mem_of_getElem? (i := 8) rfl)
theorem dX9_init_18 : decode cX9_init 18 = .ok (.putfield 15, 3) := dgX9_init_0 (18, (.putfield 15, 3)) (List.mem_of_getElem? (i := 9) rfl)
theorem dX9_init_21 : decode cX9_init 21 = .ok (.aload_n 0, 1) := dgX9_init_0 (21, (.aload_n 0, 1)) (List.mem_of_getElem? (i := 10) rfl)
theorem dX9_init_22 : decode cX9_init 22 = .ok (.aload_n 1, 1) := dgX9_init_0 (22, (.aload_n 1, 1)) (List.mem_of_getElem? (i := 11) rfl)
theorem dX9_init_23 : decode cX9_init 23 = .ok (.putfield 19, 3) := dgX9_init_0 (23, (.putfield 19, 3)) (List.mem_of_getElem? (i := 12) rfl)
theorem dX9_init_26 : decode cX9_init 26 = .ok (.aload_n 0, 1) := dgX9_init_0 (26, (.aload_n 0, 1)) (List.mem_of_getElem? (i := 13) rfl)
theorem dX9_init_27 : decode cX9_init 27 = .ok (.aload_n 2, 1) := dgX9_init_0 (27, (.aload_n 2, 1)) (List.mem_of_getElem? (i := 14) rfl)
theorem dX9_init_28 : decode cX9_init 28 = .ok (.putfield 23, 3) := dgX9_init_0 (28, (.putfield 23, 3)) (List.mem_of_getElem? (i := 15) rfl)
theorem dX9_init_31 : decode cX9_init 31 = .ok (.return_, 1) := dgX9_init_0 (31, (.return_, 1)) (List.mem_of_getElem? (i := 16) rfl)
set_option maxHeartbeats 4000000 in
set_option maxRecDepth 100000 in
theorem kX9_init (l : Launch) (G : g5_G) (a0 a1 a2 : Nat) (sz : Nat) : Met l yX9_init (wsG yX9_init cX9_init 3 none) ({ frames := 1, cells := 2, slots := 1560, locals := 12 }) (va_Pc [.ref a0, .ref a1, .ref a2] (g5_P G [(a0, .inr (9, [.null, .null, .null, .null]))] sz)) (va_Qv (fun (u : va_W) => (∃ (q1 : Nat) (q2 : Nat), (u = [(a0, (oc9 a1 a2 q1 q2)), (q1, (arJ G 24 (fun _ => 0))), (q2, (arI G 1536 (fun _ => 0)))]))) (g5_B G (va_A [(a0, .inr (9, [.null, .null, .null, .null]))] sz)) (va_A [(a0, .inr (9, [.null, .null, .null, .null]))] sz)) 2 1560 (va_A [(a0, .inr (9, [.null, .null, .null, .null]))] sz) := by
  refine Met.ofW (cc := cX9_init) (maxL := 3) (ret := none) (by decide +kernel) rfl ?_
  intro p e s m args below meth c s₁ B hml hv
  obtain ⟨rfl, hsz, hP, hK, hD0, hN, hT⟩ := hv
  have hx := B.exec
  have hb := B.bytes
  have hr := B.returns
  have hts : ∀ w ∈ tblG, w.before _ s = true := fun w h => atoms_spec (ws := (wsG yX9_init cX9_init 3 none)) B.pre w (List.mem_cons_of_mem _ h)
  have hown : s.vm.findClass RX9 = some m.cls := findClass_of_methodNamed B.named
  have hlocks := B.notSynchronized
  have hin : meth.name = "<init>" := (name_of_methodNamed B.named B.method).1
  subst hsz
  have hD := hD0.self (sz := s.heap.size)
  generalize hAe : va_A [(a0, .inr (9, [.null, .null, .null, .null]))] s.heap.size = A at hD hT ⊢
  have hA : ∀ q : Nat, s.heap.size ≤ q → A q := fun q h => by rw [← hAe]; exact Or.inr h
  have hS : va_S A s.heap s.heap [] := va_S.rf
  replace hP : va_P G.1 vwCl [(a0, .inr (9, [.null, .null, .null, .null]))] s.heap := hP
  have hl := lv_entry ([.ref a0, .ref a1, .ref a2]) (n := 3) (Nat.le_of_ble_eq_true rfl)
  rw [lg_entry_eq]
  generalize (lg_sl ([.ref a0, .ref a1, .ref a2]) ++ List.replicate (3 - (lg_sl ([.ref a0, .ref a1, .ref a2])).length) Slot.unset).toArray = ls at hl ⊢
  replace hl : lv_has ls 3 [(0, .ref a0), (1, .ref a1), (2, .ref a2)] := hl
  refine lv_aload_n hx hb dX9_init_0 rfl (lv_at hl 0 rfl) ?_
  refine W.objInit hx hb hown (hts _ oi_X9_3) (hts _ oi_im) (hts _ oi_cd) rfl (by rw [hml]; exact hl.1) rfl dX9_init_1 (Nat.le_of_ble_eq_true rfl) (Nat.le_of_ble_eq_true rfl) ?_
  refine W.eq (g2 := F0 m 4 ls []) rfl ?_
  refine lv_aload_n hx hb dX9_init_4 rfl (lv_at hl 0 rfl) ?_
  refine lv_bipush (v := 24) hx hb dX9_init_5 (by decide +kernel) ?_
  refine W.eq (g2 := F0 m 7 ls [.int 24, .ref a0]) rfl ?_
  refine va_newa (D := G.1) (atype := .long) (ty := .long) hx hb (hts _ acl_J) rfl hK hP hD hS hA (n := 24) (N' := 24) (a0 := (24, .inr (.inl (fun _ => 0)))) (fun _ => rfl) (by decide +kernel) (by decide +kernel) (by decide +kernel) (Nat.le_of_ble_eq_true rfl) (Nat.le_of_ble_eq_true rfl) dX9_init_7 (fun q1 cA H hKn hP hD hS => ?_)
  obtain rfl : cA = G.2 1 := g5_cJ hKn
  refine g5_rs [(a0, .inr (9, [.null, .null, .null, .null])), (q1, (arJ G 24 (fun _ => 0)))] hP hD ?_
  clear hP hD
  intro hP hD
  refine W.widen (k := 1) (n := 24) (Nat.le_of_ble_eq_true rfl) (Nat.le_of_ble_eq_true rfl) ?_
  refine va_putF (D := G.1) (ci := 9) (v := .ref q1) (ty := .array .long) (C := RX9) (T := TX9) (N := 4) hx hb hts inG_X9 tyX9 tyX9_ok nmX9 hown hK hP hD hS 0 rfl rfl 2 (by decide +kernel) (hts _ fl_X9_9) (fun _ h9 => h9) rfl hin rfl (by decide +kernel) rfl rfl (Nat.le_of_ble_eq_true rfl) dX9_init_9 ?_
  clear hP hD hS
  intro H locs hP hD hS
  refine g5_rs [(a0, .inr (9, [.null, .null, .ref q1, .null])), (q1, (arJ G 24 (fun _ => 0)))] hP hD ?_
  clear hP hD
  intro hP hD
  refine lv_aload_n hx hb dX9_init_12 rfl (lv_at hl 0 rfl) ?_
  refine lv_sipush (v := 1536) hx hb dX9_init_13 (by decide +kernel) ?_
  refine va_newa (D := G.1) (atype := .int) (ty := .int) hx hb (hts _ acl_I) rfl hK hP hD hS hA (n := 1536) (N' := 1536) (a0 := (1536, .inl (fun _ => 0))) (fun _ => rfl) (by decide +kernel) (by decide +kernel) (by decide +kernel) (Nat.le_of_ble_eq_true rfl) (Nat.le_of_ble_eq_true rfl) dX9_init_16 (fun q2 cA H hKn hP hD hS => ?_)
  obtain rfl : cA = G.2 0 := g5_cI hKn
  refine g5_rs [(a0, .inr (9, [.null, .null, .ref q1, .null])), (q1, (arJ G 24 (fun _ => 0))), (q2, (arI G 1536 (fun _ => 0)))] hP hD ?_
  clear hP hD
  intro hP hD
  refine W.widen (k := 2) (n := 1560) (Nat.le_of_ble_eq_true rfl) (Nat.le_of_ble_eq_true rfl) ?_
  refine W.eq (g2 := F0 m 18 ls [.ref q2, .ref a0]) rfl ?_
  refine va_putF (D := G.1) (ci := 9) (v := .ref q2) (ty := .array .int) (C := RX9) (T := TX9) (N := 4) hx hb hts inG_X9 tyX9 tyX9_ok nmX9 hown hK hP hD hS 0 rfl rfl 3 (by decide +kernel) (hts _ fl_X9_15) (fun _ h9 => h9) rfl hin rfl (by decide +kernel) rfl rfl (Nat.le_of_ble_eq_true rfl) dX9_init_18 ?_
  clear hP hD hS
  intro H locs hP hD hS
  refine g5_rs [(a0, .inr (9, [.null, .null, .ref q1, .ref q2])), (q1, (arJ G 24 (fun _ => 0))), (q2, (arI G 1536 (fun _ => 0)))] hP hD ?_
  clear hP hD
  intro hP hD
  refine lv_aload_n hx hb dX9_init_21 rfl (lv_at hl 0 rfl) ?_
  refine lv_aload_n hx hb dX9_init_22 rfl (lv_at hl 1 rfl) ?_
  refine va_putF (D := G.1) (ci := 9) (v := .ref a1) (ty := .object "LateGlass$House") (C := RX9) (T := TX9) (N := 4) hx hb hts inG_X9 tyX9 tyX9_ok nmX9 hown hK hP hD hS 0 rfl rfl 0 (by decide +kernel) (hts _ fl_X9_19) (fun _ h9 => h9) rfl hin rfl (by decide +kernel) rfl rfl (Nat.le_of_ble_eq_true rfl) dX9_init_23 ?_
  clear hP hD hS
  intro H locs hP hD hS
  refine g5_rs [(a0, .inr (9, [.ref a1, .null, .ref q1, .ref q2])), (q1, (arJ G 24 (fun _ => 0))), (q2, (arI G 1536 (fun _ => 0)))] hP hD ?_
  clear hP hD
  intro hP hD
  refine lv_aload_n hx hb dX9_init_26 rfl (lv_at hl 0 rfl) ?_
  refine W.eq (g2 := F0 m 27 ls [.ref a0]) rfl ?_
  refine lv_aload_n hx hb dX9_init_27 rfl (lv_at hl 2 rfl) ?_
  refine va_putF (D := G.1) (ci := 9) (v := .ref a2) (ty := .object "LateGlass$Look") (C := RX9) (T := TX9) (N := 4) hx hb hts inG_X9 tyX9 tyX9_ok nmX9 hown hK hP hD hS 0 rfl rfl 1 (by decide +kernel) (hts _ fl_X9_23) (fun _ h9 => h9) rfl hin rfl (by decide +kernel) rfl rfl (Nat.le_of_ble_eq_true rfl) dX9_init_28 ?_
  clear hP hD hS
  intro H locs hP hD hS
  refine g5_rs [(a0, (oc9 a1 a2 q1 q2)), (q1, (arJ G 24 (fun _ => 0))), (q2, (arI G 1536 (fun _ => 0)))] hP hD ?_
  clear hP hD
  intro hP hD
  exact W.vret hx hb hr (fun t ht hW => ⟨⟨[(a0, (oc9 a1 a2 q1 q2)), (q1, (arJ G 24 (fun _ => 0))), (q2, (arI G 1536 (fun _ => 0)))], rfl, ⟨q1, q2, rfl⟩, by rw [ht]; exact hP, hD⟩, hS.F ht⟩) hS.2.2 dX9_init_31
theorem cd_X9_init : Cond.code yX9_init cX9_init 3 none ∈ tblG := tg 378 (by decide +kernel) (by decide +kernel)
theorem gW_X9_init : GoodIn tblG (wsG yX9_init cX9_init 3 none) := tgi cd_X9_init
theorem ml_X11_58 : Cond.methodLink RX11 58 yX9_init ∈ tblG := tg 376 (by decide +kernel) (by decide +kernel)
theorem im_X9_init : Cond.instanceMethod yX9_init ∈ tblG := tg 377 (by decide +kernel) (by decide +kernel)
theorem hs_X9_init : yX9_init.cls ≠ "java/lang/invoke/MethodHandle" ∧ yX9_init.cls ≠ "java/lang/invoke/VarHandle" ∧ (parseMethodDescriptor yX9_init.desc).map (fun d => d.parameters.length) = some 2 := by decide +kernel
theorem cl_X11_63 : Cond.classLink RX11 63 RX4 ∈ tblG := tg 393 (by decide +kernel) (by decide +kernel)
theorem oi_X4_3 : Cond.methodLink RX4 3 objectInit ∈ tblG := tg 398 (by decide +kernel) (by decide +kernel)
theorem cl_X4_9 : Cond.classLink RX4 9 RX8 ∈ tblG := tg 399 (by decide +kernel) (by decide +kernel)
theorem oi_X8_3 : Cond.methodLink RX8 3 objectInit ∈ tblG := tg 404 (by decide +kernel) (by decide +kernel)
theorem dgX8_init_0 : ∀ r ∈ ([(0, (.aload_n 0, 1)), (1, (.invokespecial 3, 3)), (4, (.aload_n 0, 1)), (5, (.sipush 401, 3)), (8, (.newarray .int, 2)), (10, (.putfield 9, 3)), (13, (.aload_n 0, 1)), (14, (.sipush 401, 3)), (17, (.newarray .int, 2)), (19, (.putfield 15, 3)), (22, (.aload_n 0, 1)), (23, (.sipush 401, 3)), (26, (.newarray .int, 2)), (28, (.putfield 18, 3)), (31, (.return_, 1))] : List (Nat × (Instr × Nat))), decode cX8_init r.1 = .ok r.2 := by decide +kernel
theorem dX8_init_0 : decode cX8_init 0 = .ok (.aload_n 0, 1) := dgX8_init_0 (0, (.aload_n 0, 1)) (List.mem_of_getElem? (i := 0) rfl)
theorem dX8_init_1 : decode cX8_init 1 = .ok (.invokespecial 3, 3) := dgX8_init_0 (1, (.invokespecial 3, 3)) (List.mem_of_getElem? (i := 1) rfl)
theorem dX8_init_4 : decode cX8_init 4 = .ok (.aload_n 0, 1) := dgX8_init_0 (4, (.aload_n 0, 1)) (List.mem_of_getElem? (i := 2) rfl)
theorem dX8_init_5 : decode cX8_init 5 = .ok (.sipush 401, 3) := dgX8_init_0 (5, (.sipush 401, 3)) (List.mem_of_getElem? (i := 3) rfl)
theorem dX8_init_8 : decode cX8_init 8 = .ok (.newarray .int, 2) := dgX8_init_0 (8, (.newarray .int, 2)) (List.mem_of_getElem? (i := 4) rfl)
theorem dX8_init_10 : decode cX8_init 10 = .ok (.putfield 9, 3) := dgX8_init_0 (10, (.putfield 9, 3)) (List.mem_of_getElem? (i := 5) rfl)
theorem dX8_init_13 : decode cX8_init 13 = .ok (.aload_n 0, 1) := dgX8_init_0 (13, (.aload_n 0, 1)) (List.mem_of_getElem? (i := 6) rfl)
theorem dX8_init_14 : decode cX8_init 14 = .ok (.sipush 401, 3) := dgX8_init_0 (14, (.sipush 401, 3)) (List.mem_of_getElem? (i := 7) rfl)
theorem dX8_init_17 : decode cX8_init 17 = .ok (.newarray .int, 2) := dgX8_init_0 (17, (.newarray .int, 2)) (List.mem_of_getElem? (i := 8) rfl)
theorem dX8_init_19 : decode cX8_init 19 = .ok (.putfield 15, 3) := dgX8_init_0 (19, (.putfield 15, 3)) (List.mem_of_getElem? (i := 9) rfl)
theorem dX8_init_22 : decode cX8_init 22 = .ok (.aload_n 0, 1) := dgX8_init_0 (22, (.aload_n 0, 1)) (List.mem_of_getElem? (i := 10) rfl)
theorem dX8_init_23 : decode cX8_init 23 = .ok (.sipush 401, 3) := dgX8_init_0 (23, (.sipush 401, 3)) (List.mem_of_getElem? (i := 11) rfl)
theorem dX8_init_26 : decode cX8_init 26 = .ok (.newarray .int, 2) := dgX8_init_0 (26, (.newarray .int, 2)) (List.mem_of_getElem? (i := 12) rfl)
theorem dX8_init_28 : decode cX8_init 28 = .ok (.putfield 18, 3) := dgX8_init_0 (28, (.putfield 18, 3)) (List.mem_of_getElem? (i := 13) rfl)
theorem dX8_init_31 : decode cX8_init 31 = .ok (.return_, 1) := dgX8_init_0 (31, (.return_, 1)) (List.mem_of_getElem? (i := 14) rfl)
set_option maxHeartbeats 4000000 in
set_option maxRecDepth 100000 in
theorem kX8_init (l : Launch) (G : g5_G) (a0 : Nat) (sz : Nat) : Met l yX8_init (wsG yX8_init cX8_init 1 none) ({ frames := 1, cells := 3, slots := 1203, locals := 12 }) (va_Pc [.ref a0] (g5_P G [(a0, .inr (8, [.null, .null, .null]))] sz)) (va_Qv (fun (u : va_W) => (∃ (q1 : Nat) (q2 : Nat) (q3 : Nat), (u = [(a0, (oc8 q1 q2 q3)), (q1, (arI G 401 (fun _ => 0))), (q2, (arI G 401 (fun _ => 0))), (q3, (arI G 401 (fun _ => 0)))]))) (g5_B G (va_A [(a0, .inr (8, [.null, .null, .null]))] sz)) (va_A [(a0, .inr (8, [.null, .null, .null]))] sz)) 3 1203 (va_A [(a0, .inr (8, [.null, .null, .null]))] sz) := by
  refine Met.ofW (cc := cX8_init) (maxL := 1) (ret := none) (by decide +kernel) rfl ?_
  intro p e s m args below meth c s₁ B hml hv
  obtain ⟨rfl, hsz, hP, hK, hD0, hN, hT⟩ := hv
  have hx := B.exec
  have hb := B.bytes
  have hr := B.returns
  have hts : ∀ w ∈ tblG, w.before _ s = true := fun w h => atoms_spec (ws := (wsG yX8_init cX8_init 1 none)) B.pre w (List.mem_cons_of_mem _ h)
  have hown : s.vm.findClass RX8 = some m.cls := findClass_of_methodNamed B.named
  have hlocks := B.notSynchronized
  have hin : meth.name = "<init>" := (name_of_methodNamed B.named B.method).1
  subst hsz
  have hD := hD0.self (sz := s.heap.size)
  generalize hAe : va_A [(a0, .inr (8, [.null, .null, .null]))] s.heap.size = A at hD hT ⊢
  have hA : ∀ q : Nat, s.heap.size ≤ q → A q := fun q h => by rw [← hAe]; exact Or.inr h
  have hS : va_S A s.heap s.heap [] := va_S.rf
  replace hP : va_P G.1 vwCl [(a0, .inr (8, [.null, .null, .null]))] s.heap := hP
  have hl := lv_entry ([.ref a0]) (n := 1) (Nat.le_of_ble_eq_true rfl)
  rw [lg_entry_eq]
  generalize (lg_sl ([.ref a0]) ++ List.replicate (1 - (lg_sl ([.ref a0])).length) Slot.unset).toArray = ls at hl ⊢
  replace hl : lv_has ls 1 [(0, .ref a0)] := hl
  refine lv_aload_n hx hb dX8_init_0 rfl (lv_at hl 0 rfl) ?_
  refine W.objInit hx hb hown (hts _ oi_X8_3) (hts _ oi_im) (hts _ oi_cd) rfl (by rw [hml]; exact hl.1) rfl dX8_init_1 (Nat.le_of_ble_eq_true rfl) (Nat.le_of_ble_eq_true rfl) ?_
  refine W.eq (g2 := F0 m 4 ls []) rfl ?_
  refine lv_aload_n hx hb dX8_init_4 rfl (lv_at hl 0 rfl) ?_
  refine lv_sipush (v := 401) hx hb dX8_init_5 (by decide +kernel) ?_
  refine W.eq (g2 := F0 m 8 ls [.int 401, .ref a0]) rfl ?_
  refine va_newa (D := G.1) (atype := .int) (ty := .int) hx hb (hts _ acl_I) rfl hK hP hD hS hA (n := 401) (N' := 401) (a0 := (401, .inl (fun _ => 0))) (fun _ => rfl) (by decide +kernel) (by decide +kernel) (by decide +kernel) (Nat.le_of_ble_eq_true rfl) (Nat.le_of_ble_eq_true rfl) dX8_init_8 (fun q1 cA H hKn hP hD hS => ?_)
  obtain rfl : cA = G.2 0 := g5_cI hKn
  refine g5_rs [(a0, .inr (8, [.null, .null, .null])), (q1, (arI G 401 (fun _ => 0)))] hP hD ?_
  clear hP hD
  intro hP hD
  refine W.widen (k := 1) (n := 401) (Nat.le_of_ble_eq_true rfl) (Nat.le_of_ble_eq_true rfl) ?_
  refine va_putF (D := G.1) (ci := 8) (v := .ref q1) (ty := .array .int) (C := RX8) (T := TX8) (N := 3) hx hb hts inG_X8 tyX8 tyX8_ok nmX8 hown hK hP hD hS 0 rfl rfl 0 (by decide +kernel) (hts _ fl_X8_9) (fun _ h9 => h9) rfl hin rfl (by decide +kernel) rfl rfl (Nat.le_of_ble_eq_true rfl) dX8_init_10 ?_
  clear hP hD hS
  intro H locs hP hD hS
  refine g5_rs [(a0, .inr (8, [.ref q1, .null, .null])), (q1, (arI G 401 (fun _ => 0)))] hP hD ?_
  clear hP hD
  intro hP hD
  refine lv_aload_n hx hb dX8_init_13 rfl (lv_at hl 0 rfl) ?_
  refine lv_sipush (v := 401) hx hb dX8_init_14 (by decide +kernel) ?_
  refine va_newa (D := G.1) (atype := .int) (ty := .int) hx hb (hts _ acl_I) rfl hK hP hD hS hA (n := 401) (N' := 401) (a0 := (401, .inl (fun _ => 0))) (fun _ => rfl) (by decide +kernel) (by decide +kernel) (by decide +kernel) (Nat.le_of_ble_eq_true rfl) (Nat.le_of_ble_eq_true rfl) dX8_init_17 (fun q2 cA H hKn hP hD hS => ?_)
  obtain rfl : cA = G.2 0 := g5_cI hKn
  refine g5_rs [(a0, .inr (8, [.ref q1, .null, .null])), (q1, (arI G 401 (fun _ => 0))), (q2, (arI G 401 (fun _ => 0)))] hP hD ?_
  clear hP hD
  intro hP hD
  refine W.widen (k := 2) (n := 802) (Nat.le_of_ble_eq_true rfl) (Nat.le_of_ble_eq_true rfl) ?_
  refine W.eq (g2 := F0 m 19 ls [.ref q2, .ref a0]) rfl ?_
  refine va_putF (D := G.1) (ci := 8) (v := .ref q2) (ty := .array .int) (C := RX8) (T := TX8) (N := 3) hx hb hts inG_X8 tyX8 tyX8_ok nmX8 hown hK hP hD hS 0 rfl rfl 1 (by decide +kernel) (hts _ fl_X8_15) (fun _ h9 => h9) rfl hin rfl (by decide +kernel) rfl rfl (Nat.le_of_ble_eq_true rfl) dX8_init_19 ?_
  clear hP hD hS
  intro H locs hP hD hS
  refine g5_rs [(a0, .inr (8, [.ref q1, .ref q2, .null])), (q1, (arI G 401 (fun _ => 0))), (q2, (arI G 401 (fun _ => 0)))] hP hD ?_
  clear hP hD
  intro hP hD
  refine lv_aload_n hx hb dX8_init_22 rfl (lv_at hl 0 rfl) ?_
  refine lv_sipush (v := 401) hx hb dX8_init_23 (by decide +kernel) ?_
  refine va_newa (D := G.1) (atype := .int) (ty := .int) hx hb (hts _ acl_I) rfl hK hP hD hS hA (n := 401) (N' := 401) (a0 := (401, .inl (fun _ => 0))) (fun _ => rfl) (by decide +kernel) (by decide +kernel) (by decide +kernel) (Nat.le_of_ble_eq_true rfl) (Nat.le_of_ble_eq_true rfl) dX8_init_26 (fun q3 cA H hKn hP hD hS => ?_)
  obtain rfl : cA = G.2 0 := g5_cI hKn
  refine g5_rs [(a0, .inr (8, [.ref q1, .ref q2, .null])), (q1, (arI G 401 (fun _ => 0))), (q2, (arI G 401 (fun _ => 0))), (q3, (arI G 401 (fun _ => 0)))] hP hD ?_
  clear hP hD
  intro hP hD
  refine W.widen (k := 3) (n := 1203) (Nat.le_of_ble_eq_true rfl) (Nat.le_of_ble_eq_true rfl) ?_
  refine va_putF (D := G.1) (ci := 8) (v := .ref q3) (ty := .array .int) (C := RX8) (T := TX8) (N := 3) hx hb hts inG_X8 tyX8 tyX8_ok nmX8 hown hK hP hD hS 0 rfl rfl 2 (by decide +kernel) (hts _ fl_X8_18) (fun _ h9 => h9) rfl hin rfl (by decide +kernel) rfl rfl (Nat.le_of_ble_eq_true rfl) dX8_init_28 ?_
  clear hP hD hS
  intro H locs hP hD hS
  refine g5_rs [(a0, (oc8 q1 q2 q3)), (q1, (arI G 401 (fun _ => 0))), (q2, (arI G 401 (fun _ => 0))), (q3, (arI G 401 (fun _ => 0)))] hP hD ?_
  clear hP hD
  intro hP hD
  refine W.eq (g2 := F0 m 31 ls []) rfl ?_
  exact W.vret hx hb hr (fun t ht hW => ⟨⟨[(a0, (oc8 q1 q2 q3)), (q1, (arI G 401 (fun _ => 0))), (q2, (arI G 401 (fun _ => 0))), (q3, (arI G 401 (fun _ => 0)))], rfl, ⟨q1, q2, q3, rfl⟩, by rw [ht]; exact hP, hD⟩, hS.F ht⟩) hS.2.2 dX8_init_31
theorem cd_X8_init : Cond.code yX8_init cX8_init 1 none ∈ tblG := tg 403 (by decide +kernel) (by decide +kernel)
theorem gW_X8_init : GoodIn tblG (wsG yX8_init cX8_init 1 none) := tgi cd_X8_init
theorem hs_X8_init : yX8_init.cls ≠ "java/lang/invoke/MethodHandle" ∧ yX8_init.cls ≠ "java/lang/invoke/VarHandle" ∧ (parseMethodDescriptor yX8_init.desc).map (fun d => d.parameters.length) = some 0 := by decide +kernel
theorem im_X8_init : Cond.instanceMethod yX8_init ∈ tblG := tg 402 (by decide +kernel) (by decide +kernel)
theorem dgX4_init_0 : ∀ r ∈ ([(0, (.aload_n 0, 1)), (1, (.invokespecial 3, 3)), (4, (.aload_n 0, 1)), (5, (.new 9, 3)), (8, (.dup, 1)), (9, (.invokespecial 11, 3)), (12, (.putfield 12, 3)), (15, (.aload_n 0, 1)), (16, (.bipush 12, 2)), (18, (.newarray .int, 2)), (20, (.putfield 18, 3)), (23, (.aload_n 0, 1)), (24, (.bipush 13, 2)), (26, (.newarray .int, 2)), (28, (.putfield 22, 3)), (31, (.aload_n 0, 1)), (32, (.sipush 400, 3)), (35, (.newarray .int, 2)), (37, (.putfield 25, 3)), (40, (.aload_n 0, 1)), (41, (.iconst (-1), 1)), (42, (.putfield 28, 3)), (45, (.return_, 1))] : List (Nat × (Instr × Nat))), decode cX4_init r.1 = .ok r.2 := by decide +kernel
theorem dX4_init_0 : decode cX4_init 0 = .ok (.aload_n 0, 1) := dgX4_init_0 (0, (.aload_n 0, 1)) (List.mem_of_getElem? (i := 0) rfl)
theorem dX4_init_1 : decode cX4_init 1 = .ok (.invokespecial 3, 3) := dgX4_init_0 (1, (.invokespecial 3, 3)) (List.mem_of_getElem? (i := 1) rfl)
theorem dX4_init_4 : decode cX4_init 4 = .ok (.aload_n 0, 1) := dgX4_init_0 (4, (.aload_n 0, 1)) (List.mem_of_getElem? (i := 2) rfl)
theorem dX4_init_5 : decode cX4_init 5 = .ok (.new 9, 3) := dgX4_init_0 (5, (.new 9, 3)) (List.mem_of_getElem? (i := 3) rfl)
theorem dX4_init_8 : decode cX4_init 8 = .ok (.dup, 1) := dgX4_init_0 (8, (.dup, 1)) (List.mem_of_getElem? (i := 4) rfl)
theorem dX4_init_9 : decode cX4_init 9 = .ok (.invokespecial 11, 3) := dgX4_init_0 (9, (.invokespecial 11, 3)) (List.mem_of_getElem? (i := 5) rfl)
theorem dX4_init_12 : decode cX4_init 12 = .ok (.putfield 12, 3) := dgX4_init_0 (12, (.putfield 12, 3)) (List.mem_of_getElem? (i := 6) rfl)
theorem dX4_init_15 : decode cX4_init 15 = .ok (.aload_n 0, 1) := dgX4_init_0 (15, (.aload_n 0, 1)) (List.mem_of_getElem? (i := 7) rfl)
theorem dX4_init_16 : decode cX4_init 16 = .ok (.bipush 12, 2) := dgX4_init_0 (16, (.bipush 12, 2)) (List.mem_of_getElem? (i := 8) rfl)
theorem dX4_init_18 : decode cX4_init 18 = .ok (.newarray .int, 2) := dgX4_init_0 (18, (.newarray .int, 2)) (List.mem_of_getElem? (i := 9) rfl)
theorem dX4_init_20 : decode cX4_init 20 = .ok (.putfield 18, 3) := dgX4_init_0 (20, (.putfield 18, 3)) (List.mem_of_getElem? (i := 10) rfl)
theorem dX4_init_23 : decode cX4_init 23 = .ok (.aload_n 0, 1) := dgX4_init_0 (23, (.aload_n 0, 1)) (List.mem_of_getElem? (i := 11) rfl)
theorem dX4_init_24 : decode cX4_init 24 = .ok (.bipush 13, 2) := dgX4_init_0 (24, (.bipush 13, 2)) (List.mem_of_getElem? (i := 12) rfl)
theorem dX4_init_26 : decode cX4_init 26 = .ok (.newarray .int, 2) := dgX4_init_0 (26, (.newarray .int, 2)) (List.mem_of_getElem? (i := 13) rfl)
theorem dX4_init_28 : decode cX4_init 28 = .ok (.putfield 22, 3) := dgX4_init_0 (28, (.putfield 22, 3)) (List.mem_of_getElem? (i := 14) rfl)
theorem dX4_init_31 : decode cX4_init 31 = .ok (.aload_n 0, 1) := dgX4_init_0 (31, (.aload_n 0, 1)) (List.mem_of_getElem? (i := 15) rfl)
theorem dX4_init_32 : decode cX4_init 32 = .ok (.sipush 400, 3) := dgX4_init_0 (32, (.sipush 400, 3)) (List.mem_of_getElem? (i := 16) rfl)
theorem dX4_init_35 : decode cX4_init 35 = .ok (.newarray .int, 2) := dgX4_init_0 (35, (.newarray .int, 2)) (List.mem_of_getElem? (i := 17) rfl)
theorem dX4_init_37 : decode cX4_init 37 = .ok (.putfield 25, 3) := dgX4_init_0 (37, (.putfield 25, 3)) (List.mem_of_getElem? (i := 18) rfl)
theorem dX4_init_40 : decode cX4_init 40 = .ok (.aload_n 0, 1) := dgX4_init_0 (40, (.aload_n 0, 1)) (List.mem_of_getElem? (i := 19) rfl)
theorem dX4_init_41 : decode cX4_init 41 = .ok (.iconst (-1), 1) := dgX4_init_0 (41, (.iconst (-1), 1)) (List.mem_of_getElem? (i := 20) rfl)
theorem dX4_init_42 : decode cX4_init 42 = .ok (.putfield 28, 3) := dgX4_init_0 (42, (.putfield 28, 3)) (List.mem_of_getElem? (i := 21) rfl)
theorem dX4_init_45 : decode cX4_init 45 = .ok (.return_, 1) := dgX4_init_0 (45, (.return_, 1)) (List.mem_of_getElem? (i := 22) rfl)
set_option maxHeartbeats 4000000 in
set_option maxRecDepth 100000 in
theorem kX4_init (l : Launch) (G : g5_G) (a0 : Nat) (sz : Nat) : Met l yX4_init (wsG yX4_init cX4_init 1 none) ({ frames := 2, cells := 7, slots := 1631, locals := 32 }) (va_Pc [.ref a0] (g5_P G [(a0, .inr (4, [.null, .null, .null, .null, .int 0, .int 0, .int 0, .int 0]))] sz)) (va_Qv (fun (u : va_W) => (∃ (q1 : Nat) (q2 : Nat) (q3 : Nat) (q4 : Nat) (q5 : Nat) (q6 : Nat) (q7 : Nat), (u = [(a0, (oc4 q1 q5 q6 q7 0 0 0 (-1))), (q1, (oc8 q2 q3 q4)), (q2, (arI G 401 (fun _ => 0))), (q3, (arI G 401 (fun _ => 0))), (q4, (arI G 401 (fun _ => 0))), (q5, (arI G 12 (fun _ => 0))), (q6, (arI G 13 (fun _ => 0))), (q7, (arI G 400 (fun _ => 0)))]))) (g5_B G (va_A [(a0, .inr (4, [.null, .null, .null, .null, .int 0, .int 0, .int 0, .int 0]))] sz)) (va_A [(a0, .inr (4, [.null, .null, .null, .null, .int 0, .int 0, .int 0, .int 0]))] sz)) 7 1631 (va_A [(a0, .inr (4, [.null, .null, .null, .null, .int 0, .int 0, .int 0, .int 0]))] sz) := by
  refine Met.ofW (cc := cX4_init) (maxL := 1) (ret := none) (by decide +kernel) rfl ?_
  intro p e s m args below meth c s₁ B hml hv
  obtain ⟨rfl, hsz, hP, hK, hD0, hN, hT⟩ := hv
  have hx := B.exec
  have hb := B.bytes
  have hr := B.returns
  have hts : ∀ w ∈ tblG, w.before _ s = true := fun w h => atoms_spec (ws := (wsG yX4_init cX4_init 1 none)) B.pre w (List.mem_cons_of_mem _ h)
  have hown : s.vm.findClass RX4 = some m.cls := findClass_of_methodNamed B.named
  have hlocks := B.notSynchronized
  have hin : meth.name = "<init>" := (name_of_methodNamed B.named B.method).1
  subst hsz
  have hD := hD0.self (sz := s.heap.size)
  generalize hAe : va_A [(a0, .inr (4, [.null, .null, .null, .null, .int 0, .int 0, .int 0, .int 0]))] s.heap.size = A at hD hT ⊢
  have hA : ∀ q : Nat, s.heap.size ≤ q → A q := fun q h => by rw [← hAe]; exact Or.inr h
  have hS : va_S A s.heap s.heap [] := va_S.rf
  replace hP : va_P G.1 vwCl [(a0, .inr (4, [.null, .null, .null, .null, .int 0, .int 0, .int 0, .int 0]))] s.heap := hP
  have hl := lv_entry ([.ref a0]) (n := 1) (Nat.le_of_ble_eq_true rfl)
  rw [lg_entry_eq]
  generalize (lg_sl ([.ref a0]) ++ List.replicate (1 - (lg_sl ([.ref a0])).length) Slot.unset).toArray = ls at hl ⊢
  replace hl : lv_has ls 1 [(0, .ref a0)] := hl
  refine lv_aload_n hx hb dX4_init_0 rfl (lv_at hl 0 rfl) ?_
  refine W.objInit hx hb hown (hts _ oi_X4_3) (hts _ oi_im) (hts _ oi_cd) rfl (by rw [hml]; exact hl.1) rfl dX4_init_1 (Nat.le_of_ble_eq_true rfl) (Nat.le_of_ble_eq_true rfl) ?_
  refine W.eq (g2 := F0 m 4 ls []) rfl ?_
  refine lv_aload_n hx hb dX4_init_4 rfl (lv_at hl 0 rfl) ?_
  refine va_new (D := G.1) (ci := 8) (fs := [.null, .null, .null]) (C := RX8) (T := TX8) (N := 3) hx hb hts inG_X8 tyX8 tyX8_ok hown (hts _ cl_X4_9) (hts _ isn_X8) (hts _ ini_X8) hK hP hD hS hA rfl (fun j hj => by rcases (show j = 0 ∨ j = 1 ∨ j = 2 by omega) with rfl | rfl | rfl <;> rfl) (Nat.le_of_ble_eq_true rfl) (Nat.le_of_ble_eq_true rfl) dX4_init_5 (fun q1 H hP hD hS => ?_)
  refine g5_rs [(a0, .inr (4, [.null, .null, .null, .null, .int 0, .int 0, .int 0, .int 0])), (q1, .inr (8, [.null, .null, .null]))] hP hD ?_
  clear hP hD
  intro hP hD
  refine W.widen (k := 1) (n := 3) (Nat.le_of_ble_eq_true rfl) (Nat.le_of_ble_eq_true rfl) ?_
  refine W.eq (g2 := F0 m 8 ls [.ref q1, .ref a0]) rfl ?_
  refine lv_dup hx hb dX4_init_8 rfl ?_
  obtain ⟨hPc, hDc, hFc⟩ := g5_sub3 (wc := [(q1, .inr (8, [.null, .null, .null]))]) hP hD hS hA [1] (by decide +kernel) rfl
  refine va_callv (va_runIN (As := []) (rest := [.ref q1, .ref a0]) ⟨hx, hb, hml, hown, hts⟩ (kX8_init l G q1 H.size) ⟨va_cnB 0 hts gW_X8_init rfl rfl rfl (hN.1 _ g5_nw_X4_11) (hts _ ini_X8) hs_X8_init ⟨Nat.le_of_ble_eq_true rfl, Nat.le_of_ble_eq_true rfl⟩, rfl, hts _ im_X8_init⟩ (g5_preS hPc hK hDc hN hT hS hFc) rfl rfl hl.1 rfl (lv_room (Nat.le_of_ble_eq_true rfl)) dX4_init_9 ⟨Nat.le_of_ble_eq_true rfl, Nat.le_of_ble_eq_true rfl⟩) hS (fun q _ h => hFc q h) hFc (fun u t H locs ht hvm hw hB hz1 hk1 hS => ?_)
  obtain ⟨hP1, hD1⟩ := hB
  have hP1 := g5_ht ht hP1
  refine W.widen (k := 4) (n := 1206) (Nat.le_of_ble_eq_true rfl) (Nat.le_of_ble_eq_true rfl) ?_
  obtain ⟨q2, q3, q4, rfl⟩ := hw
  have hJ9 := va_join (wr := [(a0, .inr (4, [.null, .null, .null, .null, .int 0, .int 0, .int 0, .int 0]))]) hP hD [1] [0] rfl rfl (by decide +kernel) (by decide +kernel) hk1 hFc hP1 hD1
  clear hP hD hPc hDc hFc ht hvm hz1 hk1 hP1 hD1
  obtain ⟨hP, hD⟩ := hJ9
  refine g5_rs [(a0, .inr (4, [.null, .null, .null, .null, .int 0, .int 0, .int 0, .int 0])), (q1, (oc8 q2 q3 q4)), (q2, (arI G 401 (fun _ => 0))), (q3, (arI G 401 (fun _ => 0))), (q4, (arI G 401 (fun _ => 0)))] hP hD ?_
  clear hP hD
  intro hP hD
  refine va_putF (D := G.1) (ci := 4) (v := .ref q1) (ty := .object "LateGlass$Tokens") (C := RX4) (T := TX4) (N := 8) hx hb hts inG_X4 tyX4 tyX4_ok nmX4 hown hK hP hD hS 0 rfl rfl 0 (by decide +kernel) (hts _ fl_X4_12) (fun _ h9 => h9) rfl hin rfl (by decide +kernel) rfl rfl (Nat.le_of_ble_eq_true rfl) dX4_init_12 ?_
  clear hP hD hS
  intro H locs hP hD hS
  refine g5_rs [(a0, .inr (4, [.ref q1, .null, .null, .null, .int 0, .int 0, .int 0, .int 0])), (q1, (oc8 q2 q3 q4)), (q2, (arI G 401 (fun _ => 0))), (q3, (arI G 401 (fun _ => 0))), (q4, (arI G 401 (fun _ => 0)))] hP hD ?_
  clear hP hD
  intro hP hD
  refine lv_aload_n hx hb dX4_init_15 rfl (lv_at hl 0 rfl) ?_
  refine lv_bipush (v := 12) hx hb dX4_init_16 (by decide +kernel) ?_
  refine W.eq (g2 := F0 m 18 ls [.int 12, .ref a0]) rfl ?_
  refine va_newa (D := G.1) (atype := .int) (ty := .int) hx hb (hts _ acl_I) rfl hK hP hD hS hA (n := 12) (N' := 12) (a0 := (12, .inl (fun _ => 0))) (fun _ => rfl) (by decide +kernel) (by decide +kernel) (by decide +kernel) (Nat.le_of_ble_eq_true rfl) (Nat.le_of_ble_eq_true rfl) dX4_init_18 (fun q5 cA H hKn hP hD hS => ?_)
  obtain rfl : cA = G.2 0 := g5_cI hKn
  refine g5_rs [(a0, .inr (4, [.ref q1, .null, .null, .null, .int 0, .int 0, .int 0, .int 0])), (q1, (oc8 q2 q3 q4)), (q2, (arI G 401 (fun _ => 0))), (q3, (arI G 401 (fun _ => 0))), (q4, (arI G 401 (fun _ => 0))), (q5, (arI G 12 (fun _ => 0)))] hP hD ?_
  clear hP hD
  intro hP hD
  refine W.widen (k := 5) (n := 1218) (Nat.le_of_ble_eq_true rfl) (Nat.le_of_ble_eq_true rfl) ?_
  refine va_putF (D := G.1) (ci := 4) (v := .ref q5) (ty := .array .int) (C := RX4) (T := TX4) (N := 8) hx hb hts inG_X4 tyX4 tyX4_ok nmX4 hown hK hP hD hS 0 rfl rfl 1 (by decide +kernel) (hts _ fl_X4_18) (fun _ h9 => h9) rfl hin rfl (by decide +kernel) rfl rfl (Nat.le_of_ble_eq_true rfl) dX4_init_20 ?_
  clear hP hD hS
  intro H locs hP hD hS
  refine g5_rs [(a0, .inr (4, [.ref q1, .ref q5, .null, .null, .int 0, .int 0, .int 0, .int 0])), (q1, (oc8 q2 q3 q4)), (q2, (arI G 401 (fun _ => 0))), (q3, (arI G 401 (fun _ => 0))), (q4, (arI G 401 (fun _ => 0))), (q5, (arI G 12 (fun _ => 0)))] hP hD ?_
  clear hP hD
  intro hP hD
  refine lv_aload_n hx hb dX4_init_23 rfl (lv_at hl 0 rfl) ?_
  refine lv_bipush (v := 13) hx hb dX4_init_24 (by decide +kernel) ?_
  refine va_newa (D := G.1) (atype := .int) (ty := .int) hx hb (hts _ acl_I) rfl hK hP hD hS hA (n := 13) (N' := 13) (a0 := (13, .inl (fun _ => 0))) (fun _ => rfl) (by decide +kernel) (by decide +kernel) (by decide +kernel) (Nat.le_of_ble_eq_true rfl) (Nat.le_of_ble_eq_true rfl) dX4_init_26 (fun q6 cA H hKn hP hD hS => ?_)
  obtain rfl : cA = G.2 0 := g5_cI hKn
  refine g5_rs [(a0, .inr (4, [.ref q1, .ref q5, .null, .null, .int 0, .int 0, .int 0, .int 0])), (q1, (oc8 q2 q3 q4)), (q2, (arI G 401 (fun _ => 0))), (q3, (arI G 401 (fun _ => 0))), (q4, (arI G 401 (fun _ => 0))), (q5, (arI G 12 (fun _ => 0))), (q6, (arI G 13 (fun _ => 0)))] hP hD ?_
  clear hP hD
  intro hP hD
  refine W.widen (k := 6) (n := 1231) (Nat.le_of_ble_eq_true rfl) (Nat.le_of_ble_eq_true rfl) ?_
  refine W.eq (g2 := F0 m 28 ls [.ref q6, .ref a0]) rfl ?_
  refine va_putF (D := G.1) (ci := 4) (v := .ref q6) (ty := .array .int) (C := RX4) (T := TX4) (N := 8) hx hb hts inG_X4 tyX4 tyX4_ok nmX4 hown hK hP hD hS 0 rfl rfl 2 (by decide +kernel) (hts _ fl_X4_22) (fun _ h9 => h9) rfl hin rfl (by decide +kernel) rfl rfl (Nat.le_of_ble_eq_true rfl) dX4_init_28 ?_
  clear hP hD hS
  intro H locs hP hD hS
  refine g5_rs [(a0, .inr (4, [.ref q1, .ref q5, .ref q6, .null, .int 0, .int 0, .int 0, .int 0])), (q1, (oc8 q2 q3 q4)), (q2, (arI G 401 (fun _ => 0))), (q3, (arI G 401 (fun _ => 0))), (q4, (arI G 401 (fun _ => 0))), (q5, (arI G 12 (fun _ => 0))), (q6, (arI G 13 (fun _ => 0)))] hP hD ?_
  clear hP hD
  intro hP hD
  refine lv_aload_n hx hb dX4_init_31 rfl (lv_at hl 0 rfl) ?_
  refine lv_sipush (v := 400) hx hb dX4_init_32 (by decide +kernel) ?_
  refine va_newa (D := G.1) (atype := .int) (ty := .int) hx hb (hts _ acl_I) rfl hK hP hD hS hA (n := 400) (N' := 400) (a0 := (400, .inl (fun _ => 0))) (fun _ => rfl) (by decide +kernel) (by decide +kernel) (by decide +kernel) (Nat.le_of_ble_eq_true rfl) (Nat.le_of_ble_eq_true rfl) dX4_init_35 (fun q7 cA H hKn hP hD hS => ?_)
  obtain rfl : cA = G.2 0 := g5_cI hKn
  refine g5_rs [(a0, .inr (4, [.ref q1, .ref q5, .ref q6, .null, .int 0, .int 0, .int 0, .int 0])), (q1, (oc8 q2 q3 q4)), (q2, (arI G 401 (fun _ => 0))), (q3, (arI G 401 (fun _ => 0))), (q4, (arI G 401 (fun _ => 0))), (q5, (arI G 12 (fun _ => 0))), (q6, (arI G 13 (fun _ => 0))), (q7, (arI G 400 (fun _ => 0)))] hP hD ?_
  clear hP hD
  intro hP hD
  refine W.widen (k := 7) (n := 1631) (Nat.le_of_ble_eq_true rfl) (Nat.le_of_ble_eq_true rfl) ?_
  refine va_putF (D := G.1) (ci := 4) (v := .ref q7) (ty := .array .int) (C := RX4) (T := TX4) (N := 8) hx hb hts inG_X4 tyX4 tyX4_ok nmX4 hown hK hP hD hS 0 rfl rfl 3 (by decide +kernel) (hts _ fl_X4_25) (fun _ h9 => h9) rfl hin rfl (by decide +kernel) rfl rfl (Nat.le_of_ble_eq_true rfl) dX4_init_37 ?_
  clear hP hD hS
  intro H locs hP hD hS
  refine g5_rs [(a0, (oc4 q1 q5 q6 q7 0 0 0 0)), (q1, (oc8 q2 q3 q4)), (q2, (arI G 401 (fun _ => 0))), (q3, (arI G 401 (fun _ => 0))), (q4, (arI G 401 (fun _ => 0))), (q5, (arI G 12 (fun _ => 0))), (q6, (arI G 13 (fun _ => 0))), (q7, (arI G 400 (fun _ => 0)))] hP hD ?_
  clear hP hD
  intro hP hD
  refine W.eq (g2 := F0 m 40 ls []) rfl ?_
  refine lv_aload_n hx hb dX4_init_40 rfl (lv_at hl 0 rfl) ?_
  refine lv_iconst (v := (-1)) hx hb dX4_init_41 (by decide +kernel) ?_
  refine va_put (D := G.1) (ci := 4) (v := .int (-1)) (ty := .int) (C := RX4) (T := TX4) (N := 8) hx hb hts inG_X4 tyX4 tyX4_ok nmX4 hown hK hP hD hS 0 rfl rfl 7 (by decide +kernel) (hts _ fl_X4_28) (fun _ h9 => h9) rfl (by decide +kernel) rfl rfl (Nat.le_of_ble_eq_true rfl) dX4_init_42 ?_
  clear hP hD hS
  intro H locs hP hD hS
  refine g5_rs [(a0, (oc4 q1 q5 q6 q7 0 0 0 (-1))), (q1, (oc8 q2 q3 q4)), (q2, (arI G 401 (fun _ => 0))), (q3, (arI G 401 (fun _ => 0))), (q4, (arI G 401 (fun _ => 0))), (q5, (arI G 12 (fun _ => 0))), (q6, (arI G 13 (fun _ => 0))), (q7, (arI G 400 (fun _ => 0)))] hP hD ?_
  clear hP hD
  intro hP hD
  exact W.vret hx hb hr (fun t ht hW => ⟨⟨[(a0, (oc4 q1 q5 q6 q7 0 0 0 (-1))), (q1, (oc8 q2 q3 q4)), (q2, (arI G 401 (fun _ => 0))), (q3, (arI G 401 (fun _ => 0))), (q4, (arI G 401 (fun _ => 0))), (q5, (arI G 12 (fun _ => 0))), (q6, (arI G 13 (fun _ => 0))), (q7, (arI G 400 (fun _ => 0)))], rfl, ⟨q1, q2, q3, q4, q5, q6, q7, rfl⟩, by rw [ht]; exact hP, hD⟩, hS.F ht⟩) hS.2.2 dX4_init_45
theorem cd_X4_init : Cond.code yX4_init cX4_init 1 none ∈ tblG := tg 397 (by decide +kernel) (by decide +kernel)
theorem gW_X4_init : GoodIn tblG (wsG yX4_init cX4_init 1 none) := tgi cd_X4_init
theorem hs_X4_init : yX4_init.cls ≠ "java/lang/invoke/MethodHandle" ∧ yX4_init.cls ≠ "java/lang/invoke/VarHandle" ∧ (parseMethodDescriptor yX4_init.desc).map (fun d => d.parameters.length) = some 0 := by decide +kernel
theorem im_X4_init : Cond.instanceMethod yX4_init ∈ tblG := tg 396 (by decide +kernel) (by decide +kernel)
theorem dgX11_init_0 : ∀ r ∈ ([(0, (.aload_n 0, 1)), (1, (.invokespecial 3, 3)), (4, (.aload_n 0, 1)), (5, (.new 9, 3)), (8, (.dup, 1)), (9, (.invokespecial 11, 3)), (12, (.putfield 12, 3)), (15, (.aload_n 0, 1)), (16, (.iconst 2, 1)), (17, (.anewarray 9, 3)), (20, (.dup, 1)), (21, (.iconst 0, 1)), (22, (.new 9, 3)), (25, (.dup, 1)), (26, (.invokespecial 11, 3)), (29, (.aastore, 1)), (30, (.dup, 1)), (31, (.iconst 1, 1)), (32, (.new 9, 3)), (35, (.dup, 1)), (36, (.invokespecial 11, 3)), (39, (.aastore, 1)), (40, (.putfield 16, 3)), (43, (.aload_n 0, 1)), (44, (.iconst 2, 1)), (45, (.newarray .boolean, 2)), (47, (.putfield 20, 3)), (50, (.aload_n 0, 1)), (51, (.new 24, 3)), (54, (.dup, 1)), (55, (.aload_n 0, 1)), (56, (.getfield 12, 3)), (59, (.invokespecial 26, 3)), (62, (.putfield 29, 3)), (65, (.aload_n 0, 1)), (66, (.new 33, 3)), (69, (.dup, 1)), (70, (.aload_n 0, 1)), (71, (.getfield 12, 3)), (74, (.aload_n 0, 1))] : List (Nat × (Instr × Nat))), decode cX11_init r.1 = .ok r.2 := by decide +kernel
theorem dX11_init_0 : decode cX11_init 0 = .ok (.aload_n 0, 1) := dgX11_init_0 (0, (.aload_n 0, 1)) (List.mem_of_getElem? (i := 0) rfl)
theorem dX11_init_1 : decode cX11_init 1 = .ok (.invokespecial 3, 3) := dgX11_init_0 (1, (.invokespecial 3, 3)) (List.mem_of_getElem? (i := 1) rfl)
theorem dX11_init_4 : decode cX11_init 4 = .ok (.aload_n 0, 1) := dgX11_init_0 (4, (.aload_n 0, 1)) (List.mem_of_getElem? (i := 2) rfl)
theorem dX11_init_5 : decode cX11_init 5 = .ok (.new 9, 3) := dgX11_init_0 (5, (.new 9, 3)) (List.mem_of_getElem? (i := 3) rfl)
theorem dX11_init_8 : decode cX11_init 8 = .ok (.dup, 1) := dgX11_init_0 (8, (.dup, 1)) (List.mem_of_getElem? (i := 4) rfl)
theorem dX11_init_9 : decode cX11_init 9 = .ok (.invokespecial 11, 3) := dgX11_init_0 (9, (.invokespecial 11, 3)) (List.mem_of_getElem? (i := 5) rfl)
theorem dX11_init_12 : decode cX11_init 12 = .ok (.putfield 12, 3) := dgX11_init_0 (12, (.putfield 12, 3)) (List.mem_of_getElem? (i := 6) rfl)
theorem dX11_init_15 : decode cX11_init 15 = .ok (.aload_n 0, 1) := dgX11_init_0 (15, (.aload_n 0, 1)) (List.mem_of_getElem? (i := 7) rfl)
theorem dX11_init_16 : decode cX11_init 16 = .ok (.iconst 2, 1) := dgX11_init_0 (16, (.iconst 2, 1)) (List.mem_of_getElem? (i := 8) rfl)
theorem dX11_init_17 : decode cX11_init 17 = .ok (.anewarray 9, 3) := dgX11_init_0 (17, (.anewarray 9, 3)) (List.mem_of_getElem? (i := 9) rfl)
theorem dX11_init_20 : decode cX11_init 20 = .ok (.dup, 1) := dgX11_init_0 (20, (.dup, 1)) (List.mem_of_getElem? (i := 10) rfl)
theorem dX11_init_21 : decode cX11_init 21 = .ok (.iconst 0, 1) := dgX11_init_0 (21, (.iconst 0, 1)) (List.mem_of_getElem? (i := 11) rfl)
theorem dX11_init_22 : decode cX11_init 22 = .ok (.new 9, 3) := dgX11_init_0 (22, (.new 9, 3)) (List.mem_of_getElem? (i := 12) rfl)
theorem dX11_init_25 : decode cX11_init 25 = .ok (.dup, 1) := dgX11_init_0 (25, (.dup, 1)) (List.mem_of_getElem? (i := 13) rfl)
theorem dX11_init_26 : decode cX11_init 26 = .ok (.invokespecial 11, 3) := dgX11_init_0 (26, (.invokespecial 11, 3)) (List.mem_of_getElem? (i := 14) rfl)
theorem dX11_init_29 : decode cX11_init 29 = .ok (.aastore, 1) := dgX11_init_0 (29, (.aastore, 1)) (List.mem_of_getElem? (i := 15) rfl)
theorem dX11_init_30 : decode cX11_init 30 = .ok (.dup, 1) := dgX11_init_0 (30, (.dup, 1)) (List.mem_of_getElem? (i := 16) rfl)
theorem dX11_init_31 : decode cX11_init 31 = .ok (.iconst 1, 1) := dgX11_init_0 (31, (.iconst 1, 1)) (List.mem_of_getElem? (i := 17) rfl)
theorem dX11_init_32 : decode cX11_init 32 = .ok (.new 9, 3) := dgX11_init_0 (32, (.new 9, 3)) (List.mem_of_getElem? (i := 18) rfl)
theorem dX11_init_35 : decode cX11_init 35 = .ok (.dup, 1) := dgX11_init_0 (35, (.dup, 1)) (List.mem_of_getElem? (i := 19) rfl)
theorem dX11_init_36 : decode cX11_init 36 = .ok (.invokespecial 11, 3) := dgX11_init_0 (36, (.invokespecial 11, 3)) (List.mem_of_getElem? (i := 20) rfl)
theorem dX11_init_39 : decode cX11_init 39 = .ok (.aastore, 1) := dgX11_init_0 (39, (.aastore, 1)) (List.mem_of_getElem? (i := 21) rfl)
theorem dX11_init_40 : decode cX11_init 40 = .ok (.putfield 16, 3) := dgX11_init_0 (40, (.putfield 16, 3)) (List.mem_of_getElem? (i := 22) rfl)
theorem dX11_init_43 : decode cX11_init 43 = .ok (.aload_n 0, 1) := dgX11_init_0 (43, (.aload_n 0, 1)) (List.mem_of_getElem? (i := 23) rfl)
theorem dX11_init_44 : decode cX11_init 44 = .ok (.iconst 2, 1) := dgX11_init_0 (44, (.iconst 2, 1)) (List.mem_of_getElem? (i := 24) rfl)
theorem dX11_init_45 : decode cX11_init 45 = .ok (.newarray .boolean, 2) := dgX11_init_0 (45, (.newarray .boolean, 2)) (List.mem_of_getElem? (i := 25) rfl)
theorem dX11_init_47 : decode cX11_init 47 = .ok (.putfield 20, 3) := dgX11_init_0 (47, (.putfield 20, 3)) (List.mem_of_getElem? (i := 26) rfl)
theorem dX11_init_50 : decode cX11_init 50 = .ok (.aload_n 0, 1) := dgX11_init_0 (50, (.aload_n 0, 1)) (List.mem_of_getElem? (i := 27) rfl)
theorem dX11_init_51 : decode cX11_init 51 = .ok (.new 24, 3) := dgX11_init_0 (51, (.new 24, 3)) (List.mem_of_getElem? (i := 28) rfl)
theorem dX11_init_54 : decode cX11_init 54 = .ok (.dup, 1) := dgX11_init_0 (54, (.dup, 1)) (List.mem_of_getElem? (i := 29) rfl)
theorem dX11_init_55 : decode cX11_init 55 = .ok (.aload_n 0, 1) := dgX11_init_0 (55, (.aload_n 0, 1)) (List.mem_of_getElem? (i := 30) rfl)
theorem dX11_init_56 : decode cX11_init 56 = .ok (.getfield 12, 3) := dgX11_init_0 (56, (.getfield 12, 3)) (List.mem_of_getElem? (i := 31) rfl)
theorem dX11_init_59 : decode cX11_init 59 = .ok (.invokespecial 26, 3) := dgX11_init_0 (59, (.invokespecial 26, 3)) (List.mem_of_getElem? (i := 32) rfl)
theorem dX11_init_62 : decode cX11_init 62 = .ok (.putfield 29, 3) := dgX11_init_0 (62, (.putfield 29, 3)) (List.mem_of_getElem? (i := 33) rfl)
theorem dX11_init_65 : decode cX11_init 65 = .ok (.aload_n 0, 1) := dgX11_init_0 (65, (.aload_n 0, 1)) (List.mem_of_getElem? (i := 34) rfl)
theorem dX11_init_66 : decode cX11_init 66 = .ok (.new 33, 3) := dgX11_init_0 (66, (.new 33, 3)) (List.mem_of_getElem? (i := 35) rfl)
theorem dX11_init_69 : decode cX11_init 69 = .ok (.dup, 1) := dgX11_init_0 (69, (.dup, 1)) (List.mem_of_getElem? (i := 36) rfl)
theorem dX11_init_70 : decode cX11_init 70 = .ok (.aload_n 0, 1) := dgX11_init_0 (70, (.aload_n 0, 1)) (List.mem_of_getElem? (i := 37) rfl)
theorem dX11_init_71 : decode cX11_init 71 = .ok (.getfield 12, 3) := dgX11_init_0 (71, (.getfield 12, 3)) (List.mem_of_getElem? (i := 38) rfl)
theorem dX11_init_74 : decode cX11_init 74 = .ok (.aload_n 0, 1) := dgX11_init_0 (74, (.aload_n 0, 1)) (List.mem_of_getElem? (i := 39) rfl)
theorem dgX11_init_1 : ∀ r ∈ ([(75, (.getfield 29, 3)), (78, (.invokespecial 35, 3)), (81, (.putfield 38, 3)), (84, (.aload_n 0, 1)), (85, (.new 42, 3)), (88, (.dup, 1)), (89, (.aload_n 0, 1)), (90, (.getfield 12, 3)), (93, (.aload_n 0, 1)), (94, (.getfield 29, 3)), (97, (.invokespecial 44, 3)), (100, (.putfield 45, 3)), (103, (.aload_n 0, 1)), (104, (.new 49, 3)), (107, (.dup, 1)), (108, (.aload_n 0, 1)), (109, (.getfield 12, 3)), (112, (.aload_n 0, 1)), (113, (.getfield 29, 3)), (116, (.invokespecial 51, 3)), (119, (.putfield 52, 3)), (122, (.aload_n 0, 1)), (123, (.new 56, 3)), (126, (.dup, 1)), (127, (.aload_n 0, 1)), (128, (.getfield 12, 3)), (131, (.aload_n 0, 1)), (132, (.getfield 29, 3)), (135, (.invokespecial 58, 3)), (138, (.putfield 59, 3)), (141, (.aload_n 0, 1)), (142, (.new 63, 3)), (145, (.dup, 1)), (146, (.invokespecial 65, 3)), (149, (.putfield 66, 3)), (152, (.aload_n 0, 1)), (153, (.sipush 400, 3)), (156, (.newarray .int, 2)), (158, (.putfield 70, 3)), (161, (.aload_n 0, 1))] : List (Nat × (Instr × Nat))), decode cX11_init r.1 = .ok r.2 := by decide +kernel
theorem dX11_init_75 : decode cX11_init 75 = .ok (.getfield 29, 3) := dgX11_init_1 (75, (.getfield 29, 3)) (List.mem_of_getElem? (i := 0) rfl)
theorem dX11_init_78 : decode cX11_init 78 = .ok (.invokespecial 35, 3) := dgX11_init_1 (78, (.invokespecial 35, 3)) (List.mem_of_getElem? (i := 1) rfl)
theorem dX11_init_81 : decode cX11_init 81 = .ok (.putfield 38, 3) := dgX11_init_1 (81, (.putfield 38, 3)) (List.mem_of_getElem? (i := 2) rfl)
theorem dX11_init_84 : decode cX11_init 84 = .ok (.aload_n 0, 1) := dgX11_init_1 (84, (.aload_n 0, 1)) (List.mem_of_getElem? (i := 3) rfl)
theorem dX11_init_85 : decode cX11_init 85 = .ok (.new 42, 3) := dgX11_init_1 (85, (.new 42, 3)) (List.mem_of_getElem? (i := 4) rfl)
theorem dX11_init_88 : decode cX11_init 88 = .ok (.dup, 1) := dgX11_init_1 (88, (.dup, 1)) (List.mem_of_getElem? (i := 5) rfl)
theorem dX11_init_89 : decode cX11_init 89 = .ok (.aload_n 0, 1) := dgX11_init_1 (89, (.aload_n 0, 1)) (List.mem_of_getElem? (i := 6) rfl)
theorem dX11_init_90 : decode cX11_init 90 = .ok (.getfield 12, 3) := dgX11_init_1 (90, (.getfield 12, 3)) (List.mem_of_getElem? (i := 7) rfl)
theorem dX11_init_93 : decode cX11_init 93 = .ok (.aload_n 0, 1) := dgX11_init_1 (93, (.aload_n 0, 1)) (List.mem_of_getElem? (i := 8) rfl)
theorem dX11_init_94 : decode cX11_init 94 = .ok (.getfield 29, 3) := dgX11_init_1 (94, (.getfield 29, 3)) (List.mem_of_getElem? (i := 9) rfl)
theorem dX11_init_97 : decode cX11_init 97 = .ok (.invokespecial 44, 3) := dgX11_init_1 (97, (.invokespecial 44, 3)) (List.mem_of_getElem? (i := 10) rfl)
theorem dX11_init_100 : decode cX11_init 100 = .ok (.putfield 45, 3) := dgX11_init_1 (100, (.putfield 45, 3)) (List.mem_of_getElem? (i := 11) rfl)
theorem dX11_init_103 : decode cX11_init 103 = .ok (.aload_n 0, 1) := dgX11_init_1 (103, (.aload_n 0, 1)) (List.mem_of_getElem? (i := 12) rfl)
theorem dX11_init_104 : decode cX11_init 104 = .ok (.new 49, 3) := dgX11_init_1 (104, (.new 49, 3)) (List.mem_of_getElem? (i := 13) rfl)
theorem dX11_init_107 : decode cX11_init 107 = .ok (.dup, 1) := dgX11_init_1 (107, (.dup, 1)) (List.mem_of_getElem? (i := 14) rfl)
theorem dX11_init_108 : decode cX11_init 108 = .ok (.aload_n 0, 1) := dgX11_init_1 (108, (.aload_n 0, 1)) (List.mem_of_getElem? (i := 15) rfl)
theorem dX11_init_109 : decode cX11_init 109 = .ok (.getfield 12, 3) := dgX11_init_1 (109, (.getfield 12, 3)) (List.mem_of_getElem? (i := 16) rfl)
theorem dX11_init_112 : decode cX11_init 112 = .ok (.aload_n 0, 1) := dgX11_init_1 (112, (.aload_n 0, 1)) (List.mem_of_getElem? (i := 17) rfl)
theorem dX11_init_113 : decode cX11_init 113 = .ok (.getfield 29, 3) := dgX11_init_1 (113, (.getfield 29, 3)) (List.mem_of_getElem? (i := 18) rfl)
theorem dX11_init_116 : decode cX11_init 116 = .ok (.invokespecial 51, 3) := dgX11_init_1 (116, (.invokespecial 51, 3)) (List.mem_of_getElem? (i := 19) rfl)
theorem dX11_init_119 : decode cX11_init 119 = .ok (.putfield 52, 3) := dgX11_init_1 (119, (.putfield 52, 3)) (List.mem_of_getElem? (i := 20) rfl)
theorem dX11_init_122 : decode cX11_init 122 = .ok (.aload_n 0, 1) := dgX11_init_1 (122, (.aload_n 0, 1)) (List.mem_of_getElem? (i := 21) rfl)
theorem dX11_init_123 : decode cX11_init 123 = .ok (.new 56, 3) := dgX11_init_1 (123, (.new 56, 3)) (List.mem_of_getElem? (i := 22) rfl)
theorem dX11_init_126 : decode cX11_init 126 = .ok (.dup, 1) := dgX11_init_1 (126, (.dup, 1)) (List.mem_of_getElem? (i := 23) rfl)
theorem dX11_init_127 : decode cX11_init 127 = .ok (.aload_n 0, 1) := dgX11_init_1 (127, (.aload_n 0, 1)) (List.mem_of_getElem? (i := 24) rfl)
theorem dX11_init_128 : decode cX11_init 128 = .ok (.getfield 12, 3) := dgX11_init_1 (128, (.getfield 12, 3)) (List.mem_of_getElem? (i := 25) rfl)
theorem dX11_init_131 : decode cX11_init 131 = .ok (.aload_n 0, 1) := dgX11_init_1 (131, (.aload_n 0, 1)) (List.mem_of_getElem? (i := 26) rfl)
theorem dX11_init_132 : decode cX11_init 132 = .ok (.getfield 29, 3) := dgX11_init_1 (132, (.getfield 29, 3)) (List.mem_of_getElem? (i := 27) rfl)
theorem dX11_init_135 : decode cX11_init 135 = .ok (.invokespecial 58, 3) := dgX11_init_1 (135, (.invokespecial 58, 3)) (List.mem_of_getElem? (i := 28) rfl)
theorem dX11_init_138 : decode cX11_init 138 = .ok (.putfield 59, 3) := dgX11_init_1 (138, (.putfield 59, 3)) (List.mem_of_getElem? (i := 29) rfl)
theorem dX11_init_141 : decode cX11_init 141 = .ok (.aload_n 0, 1) := dgX11_init_1 (141, (.aload_n 0, 1)) (List.mem_of_getElem? (i := 30) rfl)
theorem dX11_init_142 : decode cX11_init 142 = .ok (.new 63, 3) := dgX11_init_1 (142, (.new 63, 3)) (List.mem_of_getElem? (i := 31) rfl)
theorem dX11_init_145 : decode cX11_init 145 = .ok (.dup, 1) := dgX11_init_1 (145, (.dup, 1)) (List.mem_of_getElem? (i := 32) rfl)
theorem dX11_init_146 : decode cX11_init 146 = .ok (.invokespecial 65, 3) := dgX11_init_1 (146, (.invokespecial 65, 3)) (List.mem_of_getElem? (i := 33) rfl)
theorem dX11_init_149 : decode cX11_init 149 = .ok (.putfield 66, 3) := dgX11_init_1 (149, (.putfield 66, 3)) (List.mem_of_getElem? (i := 34) rfl)
theorem dX11_init_152 : decode cX11_init 152 = .ok (.aload_n 0, 1) := dgX11_init_1 (152, (.aload_n 0, 1)) (List.mem_of_getElem? (i := 35) rfl)
theorem dX11_init_153 : decode cX11_init 153 = .ok (.sipush 400, 3) := dgX11_init_1 (153, (.sipush 400, 3)) (List.mem_of_getElem? (i := 36) rfl)
theorem dX11_init_156 : decode cX11_init 156 = .ok (.newarray .int, 2) := dgX11_init_1 (156, (.newarray .int, 2)) (List.mem_of_getElem? (i := 37) rfl)
theorem dX11_init_158 : decode cX11_init 158 = .ok (.putfield 70, 3) := dgX11_init_1 (158, (.putfield 70, 3)) (List.mem_of_getElem? (i := 38) rfl)
theorem dX11_init_161 : decode cX11_init 161 = .ok (.aload_n 0, 1) := dgX11_init_1 (161, (.aload_n 0, 1)) (List.mem_of_getElem? (i := 39) rfl)
theorem dgX11_init_2 : ∀ r ∈ ([(162, (.iconst 0, 1)), (163, (.putfield 74, 3)), (166, (.aload_n 0, 1)), (167, (.iconst 0, 1)), (168, (.putfield 78, 3)), (171, (.aload_n 0, 1)), (172, (.iconst (-1), 1)), (173, (.putfield 81, 3)), (176, (.aload_n 0, 1)), (177, (.bipush 24, 2)), (179, (.newarray .int, 2)), (181, (.putfield 84, 3)), (184, (.aload_n 0, 1)), (185, (.iconst 0, 1)), (186, (.putfield 87, 3)), (189, (.aload_n 0, 1)), (190, (.iconst 5, 1)), (191, (.newarray .int, 2)), (193, (.putfield 91, 3)), (196, (.aload_n 0, 1)), (197, (.iconst 0, 1)), (198, (.putfield 94, 3)), (201, (.return_, 1))] : List (Nat × (Instr × Nat))), decode cX11_init r.1 = .ok r.2 := by decide +kernel
theorem dX11_init_162 : decode cX11_init 162 = .ok (.iconst 0, 1) := dgX11_init_2 (162, (.iconst 0, 1)) (List.mem_of_getElem? (i := 0) rfl)
theorem dX11_init_163 : decode cX11_init 163 = .ok (.putfield 74, 3) := dgX11_init_2 (163, (.putfield 74, 3)) (List.mem_of_getElem? (i := 1) rfl)
theorem dX11_init_166 : decode cX11_init 166 = .ok (.aload_n 0, 1) := dgX11_init_2 (166, (.aload_n 0, 1)) (List.mem_of_getElem? (i := 2) rfl)
theorem dX11_init_167 : decode cX11_init 167 = .ok (.iconst 0, 1) := dgX11_init_2 (167, (.iconst 0, 1)) (List.mem_of_getElem? (i := 3) rfl)
theorem dX11_init_168 : decode cX11_init 168 = .ok (.putfield 78, 3) := dgX11_init_2 (168, (.putfield 78, 3)) (List.mem_of_getElem? (i := 4) rfl)
theorem dX11_init_171 : decode cX11_init 171 = .ok (.aload_n 0, 1) := dgX11_init_2 (171, (.aload_n 0, 1)) (List.mem_of_getElem? (i := 5) rfl)
theorem dX11_init_172 : decode cX11_init 172 = .ok (.iconst (-1), 1) := dgX11_init_2 (172, (.iconst (-1), 1)) (List.mem_of_getElem? (i := 6) rfl)
theorem dX11_init_173 : decode cX11_init 173 = .ok (.putfield 81, 3) := dgX11_init_2 (173, (.putfield 81, 3)) (List.mem_of_getElem? (i := 7) rfl)
theorem dX11_init_176 : decode cX11_init 176 = .ok (.aload_n 0, 1) := dgX11_init_2 (176, (.aload_n 0, 1)) (List.mem_of_getElem? (i := 8) rfl)
theorem dX11_init_177 : decode cX11_init 177 = .ok (.bipush 24, 2) := dgX11_init_2 (177, (.bipush 24, 2)) (List.mem_of_getElem? (i := 9) rfl)
theorem dX11_init_179 : decode cX11_init 179 = .ok (.newarray .int, 2) := dgX11_init_2 (179, (.newarray .int, 2)) (List.mem_of_getElem? (i := 10) rfl)
theorem dX11_init_181 : decode cX11_init 181 = .ok (.putfield 84, 3) := dgX11_init_2 (181, (.putfield 84, 3)) (List.mem_of_getElem? (i := 11) rfl)
theorem dX11_init_184 : decode cX11_init 184 = .ok (.aload_n 0, 1) := dgX11_init_2 (184, (.aload_n 0, 1)) (List.mem_of_getElem? (i := 12) rfl)
theorem dX11_init_185 : decode cX11_init 185 = .ok (.iconst 0, 1) := dgX11_init_2 (185, (.iconst 0, 1)) (List.mem_of_getElem? (i := 13) rfl)
theorem dX11_init_186 : decode cX11_init 186 = .ok (.putfield 87, 3) := dgX11_init_2 (186, (.putfield 87, 3)) (List.mem_of_getElem? (i := 14) rfl)
theorem dX11_init_189 : decode cX11_init 189 = .ok (.aload_n 0, 1) := dgX11_init_2 (189, (.aload_n 0, 1)) (List.mem_of_getElem? (i := 15) rfl)
theorem dX11_init_190 : decode cX11_init 190 = .ok (.iconst 5, 1) := dgX11_init_2 (190, (.iconst 5, 1)) (List.mem_of_getElem? (i := 16) rfl)
theorem dX11_init_191 : decode cX11_init 191 = .ok (.newarray .int, 2) := dgX11_init_2 (191, (.newarray .int, 2)) (List.mem_of_getElem? (i := 17) rfl)
theorem dX11_init_193 : decode cX11_init 193 = .ok (.putfield 91, 3) := dgX11_init_2 (193, (.putfield 91, 3)) (List.mem_of_getElem? (i := 18) rfl)
theorem dX11_init_196 : decode cX11_init 196 = .ok (.aload_n 0, 1) := dgX11_init_2 (196, (.aload_n 0, 1)) (List.mem_of_getElem? (i := 19) rfl)
theorem dX11_init_197 : decode cX11_init 197 = .ok (.iconst 0, 1) := dgX11_init_2 (197, (.iconst 0, 1)) (List.mem_of_getElem? (i := 20) rfl)
theorem dX11_init_198 : decode cX11_init 198 = .ok (.putfield 94, 3) := dgX11_init_2 (198, (.putfield 94, 3)) (List.mem_of_getElem? (i := 21) rfl)
theorem dX11_init_201 : decode cX11_init 201 = .ok (.return_, 1) := dgX11_init_2 (201, (.return_, 1)) (List.mem_of_getElem? (i := 22) rfl)
set_option maxHeartbeats 4000000 in
set_option maxRecDepth 100000 in
theorem kX11_init (l : Launch) (G : g5_G) (a0 : Nat) (sz : Nat) : Met l yX11_init (wsG yX11_init cX11_init 1 none) ({ frames := 3, cells := 71, slots := 12258, locals := 54 }) (va_Pc [.ref a0] (g5_P G [(a0, .inr (11, [.null, .null, .null, .null, .null, .null, .null, .null, .null, .null, .int 0, .int 0, .int 0, .null, .int 0, .null, .int 0]))] sz)) (va_Qv (fun (u : va_W) => (∃ (q1 : Nat) (q2 : Nat) (q3 : Nat) (q4 : Nat) (q5 : Nat) (q6 : Nat) (q7 : Nat) (q8 : Nat) (q9 : Nat) (q10 : Nat) (q11 : Nat) (q12 : Nat) (q13 : Nat) (q14 : Nat) (q15 : Nat) (q16 : Nat) (q17 : Nat) (q18 : Nat) (q19 : Nat) (q20 : Nat) (q21 : Nat) (q22 : Nat) (q23 : Nat) (q24 : Nat) (q25 : Nat) (q26 : Nat) (q27 : Nat) (q28 : Nat) (q29 : Nat) (q30 : Nat) (q31 : Nat) (q32 : Nat) (q33 : Nat) (q34 : Nat) (q35 : Nat) (q36 : Nat) (q37 : Nat) (q38 : Nat) (q39 : Nat) (q40 : Nat) (q41 : Nat) (q42 : Nat) (q43 : Nat) (q44 : Nat) (q45 : Nat) (q46 : Nat) (q47 : Nat) (q48 : Nat) (q49 : Nat) (q50 : Nat) (q51 : Nat) (q52 : Nat) (q53 : Nat) (q54 : Nat) (q55 : Nat) (q56 : Nat) (q57 : Nat) (q58 : Nat) (q59 : Nat) (q60 : Nat) (q61 : Nat) (q62 : Nat) (q63 : Nat) (q64 : Nat) (q65 : Nat) (q66 : Nat) (q67 : Nat) (q68 : Nat) (q69 : Nat) (q70 : Nat) (q71 : Nat), (u = [(a0, (oc11 q1 q14 q41 q42 q47 q49 q57 q58 q61 q69 0 0 (-1) q70 0 q71 0)), (q1, (oc1 0 1000 (-1) (-1) 0 q2 q3 q5 q7 q9 q11 0 q13)), (q2, (arW G 6 (fun _ => none))), (q3, (oc6 6 5 q4 0)), (q4, (arI G 30 (fun _ => 0))), (q5, (oc6 5 24 q6 0)), (q6, (arI G 120 (fun _ => 0))), (q7, (oc6 10 4 q8 0)), (q8, (arI G 40 (fun _ => 0))), (q9, (oc6 8 5 q10 0)), (q10, (arI G 40 (fun _ => 0))), (q11, (oc6 6 6 q12 0)), (q12, (arI G 36 (fun _ => 0))), (q13, (arJ G 24 (fun _ => 0))), (q14, (arH G 2 (va_up (va_up (fun _ => none) 0 (some q15)) 1 (some q28)))), (q15, (oc1 0 1000 (-1) (-1) 0 q16 q17 q19 q21 q23 q25 0 q27)), (q16, (arW G 6 (fun _ => none))), (q17, (oc6 6 5 q18 0)), (q18, (arI G 30 (fun _ => 0))), (q19, (oc6 5 24 q20 0)), (q20, (arI G 120 (fun _ => 0))), (q21, (oc6 10 4 q22 0)), (q22, (arI G 40 (fun _ => 0))), (q23, (oc6 8 5 q24 0)), (q24, (arI G 40 (fun _ => 0))), (q25, (oc6 6 6 q26 0)), (q26, (arI G 36 (fun _ => 0))), (q27, (arJ G 24 (fun _ => 0))), (q28, (oc1 0 1000 (-1) (-1) 0 q29 q30 q32 q34 q36 q38 0 q40)), (q29, (arW G 6 (fun _ => none))), (q30, (oc6 6 5 q31 0)), (q31, (arI G 30 (fun _ => 0))), (q32, (oc6 5 24 q33 0)), (q33, (arI G 120 (fun _ => 0))), (q34, (oc6 10 4 q35 0)), (q35, (arI G 40 (fun _ => 0))), (q36, (oc6 8 5 q37 0)), (q37, (arI G 40 (fun _ => 0))), (q38, (oc6 6 6 q39 0)), (q39, (arI G 36 (fun _ => 0))), (q40, (arJ G 24 (fun _ => 0))), (q41, (arZ G 2 (fun _ => 0))), (q42, (oc5 q1 q43 q46 0 0 0 0 0 0 0 0 0 0)), (q43, (oc2 q44 q45)), (q44, (arI G 8 (fun _ => 0))), (q45, (arJ G 50 (fun _ => 0))), (q46, (arI G 200 (fun _ => 0))), (q47, (oc10 q1 q42 q48)), (q48, (arJ G 24 (fun _ => 0))), (q49, (oc7 q1 q42 q50 q51 0 q52 q53 q54 q55 q56)), (q50, (arJ G 24 (fun _ => 0))), (q51, (arI G 1536 (fun _ => 0))), (q52, (arJ G 2048 (fun _ => 0))), (q53, (arJ G 2048 (fun _ => 0))), (q54, (arI G 1536 (fun _ => 0))), (q55, (arI G 64 (fun _ => 0))), (q56, (arI G 64 (fun _ => 0))), (q57, (oc0 q1 q42 0 0 0)), (q58, (oc9 q1 q42 q59 q60)), (q59, (arJ G 24 (fun _ => 0))), (q60, (arI G 1536 (fun _ => 0))), (q61, (oc4 q62 q66 q67 q68 0 0 0 (-1))), (q62, (oc8 q63 q64 q65)), (q63, (arI G 401 (fun _ => 0))), (q64, (arI G 401 (fun _ => 0))), (q65, (arI G 401 (fun _ => 0))), (q66, (arI G 12 (fun _ => 0))), (q67, (arI G 13 (fun _ => 0))), (q68, (arI G 400 (fun _ => 0))), (q69, (arI G 400 (fun _ => 0))), (q70, (arI G 24 (fun _ => 0))), (q71, (arI G 5 (fun _ => 0)))]))) (g5_B G (va_A [(a0, .inr (11, [.null, .null, .null, .null, .null, .null, .null, .null, .null, .null, .int 0, .int 0, .int 0, .null, .int 0, .null, .int 0]))] sz)) (va_A [(a0, .inr (11, [.null, .null, .null, .null, .null, .null, .null, .null, .null, .null, .int 0, .int 0, .int 0, .null, .int 0, .null, .int 0]))] sz)) 71 12258 (va_A [(a0, .inr (11, [.null, .null, .null, .null, .null, .null, .null, .null, .null, .null, .int 0, .int 0, .int 0, .null, .int 0, .null, .int 0]))] sz) := by
  refine Met.ofW (cc := cX11_init) (maxL := 1) (ret := none) (by decide +kernel) rfl ?_
  intro p e s m args below meth c s₁ B hml hv
  obtain ⟨rfl, hsz, hP, hK, hD0, hN, hT⟩ := hv
  have hx := B.exec
  have hb := B.bytes
  have hr := B.returns
  have hts : ∀ w ∈ tblG, w.before _ s = true := fun w h => atoms_spec (ws := (wsG yX11_init cX11_init 1 none)) B.pre w (List.mem_cons_of_mem _ h)
  have hown : s.vm.findClass RX11 = some m.cls := findClass_of_methodNamed B.named
  have hlocks := B.notSynchronized
  have hin : meth.name = "<init>" := (name_of_methodNamed B.named B.method).1
  subst hsz
  have hD := hD0.self (sz := s.heap.size)
  generalize hAe : va_A [(a0, .inr (11, [.null, .null, .null, .null, .null, .null, .null, .null, .null, .null, .int 0, .int 0, .int 0, .null, .int 0, .null, .int 0]))] s.heap.size = A at hD hT ⊢
  have hA : ∀ q : Nat, s.heap.size ≤ q → A q := fun q h => by rw [← hAe]; exact Or.inr h
  have hS : va_S A s.heap s.heap [] := va_S.rf
  replace hP : va_P G.1 vwCl [(a0, .inr (11, [.null, .null, .null, .null, .null, .null, .null, .null, .null, .null, .int 0, .int 0, .int 0, .null, .int 0, .null, .int 0]))] s.heap := hP
  have hl := lv_entry ([.ref a0]) (n := 1) (Nat.le_of_ble_eq_true rfl)
  rw [lg_entry_eq]
  generalize (lg_sl ([.ref a0]) ++ List.replicate (1 - (lg_sl ([.ref a0])).length) Slot.unset).toArray = ls at hl ⊢
  replace hl : lv_has ls 1 [(0, .ref a0)] := hl
  refine lv_aload_n hx hb dX11_init_0 rfl (lv_at hl 0 rfl) ?_
  refine W.objInit hx hb hown (hts _ oi_X11_3) (hts _ oi_im) (hts _ oi_cd) rfl (by rw [hml]; exact hl.1) rfl dX11_init_1 (Nat.le_of_ble_eq_true rfl) (Nat.le_of_ble_eq_true rfl) ?_
  refine W.eq (g2 := F0 m 4 ls []) rfl ?_
  refine lv_aload_n hx hb dX11_init_4 rfl (lv_at hl 0 rfl) ?_
  refine va_new (D := G.1) (ci := 1) (fs := [.long 0, .int 0, .int 0, .int 0, .int 0, .null, .null, .null, .null, .null, .null, .long 0, .null]) (C := RX1) (T := TX1) (N := 13) hx hb hts inG_X1 tyX1 tyX1_ok hown (hts _ cl_X11_9) (hts _ isn_X1) (hts _ ini_X1) hK hP hD hS hA rfl (fun j hj => by rcases (show j = 0 ∨ j = 1 ∨ j = 2 ∨ j = 3 ∨ j = 4 ∨ j = 5 ∨ j = 6 ∨ j = 7 ∨ j = 8 ∨ j = 9 ∨ j = 10 ∨ j = 11 ∨ j = 12 by omega) with rfl | rfl | rfl | rfl | rfl | rfl | rfl | rfl | rfl | rfl | rfl | rfl | rfl <;> rfl) (Nat.le_of_ble_eq_true rfl) (Nat.le_of_ble_eq_true rfl) dX11_init_5 (fun q1 H hP hD hS => ?_)
  refine g5_rs [(a0, .inr (11, [.null, .null, .null, .null, .null, .null, .null, .null, .null, .null, .int 0, .int 0, .int 0, .null, .int 0, .null, .int 0])), (q1, .inr (1, [.long 0, .int 0, .int 0, .int 0, .int 0, .null, .null, .null, .null, .null, .null, .long 0, .null]))] hP hD ?_
  clear hP hD
  intro hP hD
  refine W.widen (k := 1) (n := 13) (Nat.le_of_ble_eq_true rfl) (Nat.le_of_ble_eq_true rfl) ?_
  refine W.eq (g2 := F0 m 8 ls [.ref q1, .ref a0]) rfl ?_
  refine lv_dup hx hb dX11_init_8 rfl ?_
  obtain ⟨hPc, hDc, hFc⟩ := g5_sub3 (wc := [(q1, .inr (1, [.long 0, .int 0, .int 0, .int 0, .int 0, .null, .null, .null, .null, .null, .null, .long 0, .null]))]) hP hD hS hA [1] (by decide +kernel) rfl
  refine va_callv (va_runIN (As := []) (rest := [.ref q1, .ref a0]) ⟨hx, hb, hml, hown, hts⟩ (kX1_init l G q1 H.size) ⟨va_cnB 0 hts gW_X1_init rfl rfl rfl (hN.1 _ g5_nw_X11_11) (hts _ ini_X1) hs_X1_init ⟨Nat.le_of_ble_eq_true rfl, Nat.le_of_ble_eq_true rfl⟩, rfl, hts _ im_X1_init⟩ (g5_preS hPc hK hDc hN hT hS hFc) rfl rfl hl.1 rfl (lv_room (Nat.le_of_ble_eq_true rfl)) dX11_init_9 ⟨Nat.le_of_ble_eq_true rfl, Nat.le_of_ble_eq_true rfl⟩) hS (fun q _ h => hFc q h) hFc (fun u t H locs ht hvm hw hB hz1 hk1 hS => ?_)
  obtain ⟨hP1, hD1⟩ := hB
  have hP1 := g5_ht ht hP1
  refine W.widen (k := 13) (n := 329) (Nat.le_of_ble_eq_true rfl) (Nat.le_of_ble_eq_true rfl) ?_
  obtain ⟨q2, q3, q4, q5, q6, q7, q8, q9, q10, q11, q12, q13, rfl⟩ := hw
  have hJ9 := va_join (wr := [(a0, .inr (11, [.null, .null, .null, .null, .null, .null, .null, .null, .null, .null, .int 0, .int 0, .int 0, .null, .int 0, .null, .int 0]))]) hP hD [1] [0] rfl rfl (by decide +kernel) (by decide +kernel) hk1 hFc hP1 hD1
  clear hP hD hPc hDc hFc ht hvm hz1 hk1 hP1 hD1
  obtain ⟨hP, hD⟩ := hJ9
  refine g5_rs [(a0, .inr (11, [.null, .null, .null, .null, .null, .null, .null, .null, .null, .null, .int 0, .int 0, .int 0, .null, .int 0, .null, .int 0])), (q1, (oc1 0 1000 (-1) (-1) 0 q2 q3 q5 q7 q9 q11 0 q13)), (q2, (arW G 6 (fun _ => none))), (q3, (oc6 6 5 q4 0)), (q4, (arI G 30 (fun _ => 0))), (q5, (oc6 5 24 q6 0)), (q6, (arI G 120 (fun _ => 0))), (q7, (oc6 10 4 q8 0)), (q8, (arI G 40 (fun _ => 0))), (q9, (oc6 8 5 q10 0)), (q10, (arI G 40 (fun _ => 0))), (q11, (oc6 6 6 q12 0)), (q12, (arI G 36 (fun _ => 0))), (q13, (arJ G 24 (fun _ => 0)))] hP hD ?_
  clear hP hD
  intro hP hD
  refine va_putF (D := G.1) (ci := 11) (v := .ref q1) (ty := .object "LateGlass$House") (C := RX11) (T := TX11) (N := 17) hx hb hts inG_X11 tyX11 tyX11_ok nmX11 hown hK hP hD hS 0 rfl rfl 0 (by decide +kernel) (hts _ fl_X11_12) (fun _ h9 => h9) rfl hin rfl (by decide +kernel) rfl rfl (Nat.le_of_ble_eq_true rfl) dX11_init_12 ?_
  clear hP hD hS
  intro H locs hP hD hS
  refine g5_rs [(a0, .inr (11, [.ref q1, .null, .null, .null, .null, .null, .null, .null, .null, .null, .int 0, .int 0, .int 0, .null, .int 0, .null, .int 0])), (q1, (oc1 0 1000 (-1) (-1) 0 q2 q3 q5 q7 q9 q11 0 q13)), (q2, (arW G 6 (fun _ => none))), (q3, (oc6 6 5 q4 0)), (q4, (arI G 30 (fun _ => 0))), (q5, (oc6 5 24 q6 0)), (q6, (arI G 120 (fun _ => 0))), (q7, (oc6 10 4 q8 0)), (q8, (arI G 40 (fun _ => 0))), (q9, (oc6 8 5 q10 0)), (q10, (arI G 40 (fun _ => 0))), (q11, (oc6 6 6 q12 0)), (q12, (arI G 36 (fun _ => 0))), (q13, (arJ G 24 (fun _ => 0)))] hP hD ?_
  clear hP hD
  intro hP hD
  refine lv_aload_n hx hb dX11_init_15 rfl (lv_at hl 0 rfl) ?_
  refine lv_iconst (v := 2) hx hb dX11_init_16 (by decide +kernel) ?_
  refine W.eq (g2 := F0 m 17 ls [.int 2, .ref a0]) rfl ?_
  refine va_newq (D := G.1) hx hb hown (hts _ cl_X11_9) hN.2.1 hK hP hD hS hA (n := 2) (N' := 2) (by decide +kernel) (by decide +kernel) (by decide +kernel) (Nat.le_of_ble_eq_true rfl) (Nat.le_of_ble_eq_true rfl) dX11_init_17 (fun q14 cA H hKn hP hD hS => ?_)
  obtain rfl : cA = G.2 3 := g5_cH hKn
  refine g5_rs [(a0, .inr (11, [.ref q1, .null, .null, .null, .null, .null, .null, .null, .null, .null, .int 0, .int 0, .int 0, .null, .int 0, .null, .int 0])), (q1, (oc1 0 1000 (-1) (-1) 0 q2 q3 q5 q7 q9 q11 0 q13)), (q2, (arW G 6 (fun _ => none))), (q3, (oc6 6 5 q4 0)), (q4, (arI G 30 (fun _ => 0))), (q5, (oc6 5 24 q6 0)), (q6, (arI G 120 (fun _ => 0))), (q7, (oc6 10 4 q8 0)), (q8, (arI G 40 (fun _ => 0))), (q9, (oc6 8 5 q10 0)), (q10, (arI G 40 (fun _ => 0))), (q11, (oc6 6 6 q12 0)), (q12, (arI G 36 (fun _ => 0))), (q13, (arJ G 24 (fun _ => 0))), (q14, (arH G 2 (fun _ => none)))] hP hD ?_
  clear hP hD
  intro hP hD
  refine W.widen (k := 14) (n := 331) (Nat.le_of_ble_eq_true rfl) (Nat.le_of_ble_eq_true rfl) ?_
  refine lv_dup hx hb dX11_init_20 rfl ?_
  refine lv_iconst (v := 0) hx hb dX11_init_21 (by decide +kernel) ?_
  refine va_new (D := G.1) (ci := 1) (fs := [.long 0, .int 0, .int 0, .int 0, .int 0, .null, .null, .null, .null, .null, .null, .long 0, .null]) (C := RX1) (T := TX1) (N := 13) hx hb hts inG_X1 tyX1 tyX1_ok hown (hts _ cl_X11_9) (hts _ isn_X1) (hts _ ini_X1) hK hP hD hS hA rfl (fun j hj => by rcases (show j = 0 ∨ j = 1 ∨ j = 2 ∨ j = 3 ∨ j = 4 ∨ j = 5 ∨ j = 6 ∨ j = 7 ∨ j = 8 ∨ j = 9 ∨ j = 10 ∨ j = 11 ∨ j = 12 by omega) with rfl | rfl | rfl | rfl | rfl | rfl | rfl | rfl | rfl | rfl | rfl | rfl | rfl <;> rfl) (Nat.le_of_ble_eq_true rfl) (Nat.le_of_ble_eq_true rfl) dX11_init_22 (fun q15 H hP hD hS => ?_)
  refine g5_rs [(a0, .inr (11, [.ref q1, .null, .null, .null, .null, .null, .null, .null, .null, .null, .int 0, .int 0, .int 0, .null, .int 0, .null, .int 0])), (q1, (oc1 0 1000 (-1) (-1) 0 q2 q3 q5 q7 q9 q11 0 q13)), (q2, (arW G 6 (fun _ => none))), (q3, (oc6 6 5 q4 0)), (q4, (arI G 30 (fun _ => 0))), (q5, (oc6 5 24 q6 0)), (q6, (arI G 120 (fun _ => 0))), (q7, (oc6 10 4 q8 0)), (q8, (arI G 40 (fun _ => 0))), (q9, (oc6 8 5 q10 0)), (q10, (arI G 40 (fun _ => 0))), (q11, (oc6 6 6 q12 0)), (q12, (arI G 36 (fun _ => 0))), (q13, (arJ G 24 (fun _ => 0))), (q14, (arH G 2 (fun _ => none))), (q15, .inr (1, [.long 0, .int 0, .int 0, .int 0, .int 0, .null, .null, .null, .null, .null, .null, .long 0, .null]))] hP hD ?_
  clear hP hD
  intro hP hD
  refine W.widen (k := 15) (n := 344) (Nat.le_of_ble_eq_true rfl) (Nat.le_of_ble_eq_true rfl) ?_
  refine lv_dup hx hb dX11_init_25 rfl ?_
  refine W.eq (g2 := F0 m 26 ls [.ref q15, .ref q15, .int 0, .ref q14, .ref q14, .ref a0]) rfl ?_
  obtain ⟨hPc, hDc, hFc⟩ := g5_sub3 (wc := [(q15, .inr (1, [.long 0, .int 0, .int 0, .int 0, .int 0, .null, .null, .null, .null, .null, .null, .long 0, .null]))]) hP hD hS hA [15] (by decide +kernel) rfl
  refine va_callv (va_runIN (As := []) (rest := [.ref q15, .int 0, .ref q14, .ref q14, .ref a0]) ⟨hx, hb, hml, hown, hts⟩ (kX1_init l G q15 H.size) ⟨va_cnB 0 hts gW_X1_init rfl rfl rfl (hN.1 _ g5_nw_X11_11) (hts _ ini_X1) hs_X1_init ⟨Nat.le_of_ble_eq_true rfl, Nat.le_of_ble_eq_true rfl⟩, rfl, hts _ im_X1_init⟩ (g5_preS hPc hK hDc hN hT hS hFc) rfl rfl hl.1 rfl (lv_room (Nat.le_of_ble_eq_true rfl)) dX11_init_26 ⟨Nat.le_of_ble_eq_true rfl, Nat.le_of_ble_eq_true rfl⟩) hS (fun q _ h => hFc q h) hFc (fun u t H locs ht hvm hw hB hz1 hk1 hS => ?_)
  obtain ⟨hP1, hD1⟩ := hB
  have hP1 := g5_ht ht hP1
  refine W.widen (k := 27) (n := 660) (Nat.le_of_ble_eq_true rfl) (Nat.le_of_ble_eq_true rfl) ?_
  obtain ⟨q16, q17, q18, q19, q20, q21, q22, q23, q24, q25, q26, q27, rfl⟩ := hw
  have hJ9 := va_join (wr := [(a0, .inr (11, [.ref q1, .null, .null, .null, .null, .null, .null, .null, .null, .null, .int 0, .int 0, .int 0, .null, .int 0, .null, .int 0])), (q1, (oc1 0 1000 (-1) (-1) 0 q2 q3 q5 q7 q9 q11 0 q13)), (q2, (arW G 6 (fun _ => none))), (q3, (oc6 6 5 q4 0)), (q4, (arI G 30 (fun _ => 0))), (q5, (oc6 5 24 q6 0)), (q6, (arI G 120 (fun _ => 0))), (q7, (oc6 10 4 q8 0)), (q8, (arI G 40 (fun _ => 0))), (q9, (oc6 8 5 q10 0)), (q10, (arI G 40 (fun _ => 0))), (q11, (oc6 6 6 q12 0)), (q12, (arI G 36 (fun _ => 0))), (q13, (arJ G 24 (fun _ => 0))), (q14, (arH G 2 (fun _ => none)))]) hP hD [15] [0, 1, 2, 3, 4, 5, 6, 7, 8, 9, 10, 11, 12, 13, 14] rfl rfl (by decide +kernel) (by decide +kernel) hk1 hFc hP1 hD1
  clear hP hD hPc hDc hFc ht hvm hz1 hk1 hP1 hD1
  obtain ⟨hP, hD⟩ := hJ9
  refine g5_rs [(a0, .inr (11, [.ref q1, .null, .null, .null, .null, .null, .null, .null, .null, .null, .int 0, .int 0, .int 0, .null, .int 0, .null, .int 0])), (q1, (oc1 0 1000 (-1) (-1) 0 q2 q3 q5 q7 q9 q11 0 q13)), (q2, (arW G 6 (fun _ => none))), (q3, (oc6 6 5 q4 0)), (q4, (arI G 30 (fun _ => 0))), (q5, (oc6 5 24 q6 0)), (q6, (arI G 120 (fun _ => 0))), (q7, (oc6 10 4 q8 0)), (q8, (arI G 40 (fun _ => 0))), (q9, (oc6 8 5 q10 0)), (q10, (arI G 40 (fun _ => 0))), (q11, (oc6 6 6 q12 0)), (q12, (arI G 36 (fun _ => 0))), (q13, (arJ G 24 (fun _ => 0))), (q14, (arH G 2 (fun _ => none))), (q15, (oc1 0 1000 (-1) (-1) 0 q16 q17 q19 q21 q23 q25 0 q27)), (q16, (arW G 6 (fun _ => none))), (q17, (oc6 6 5 q18 0)), (q18, (arI G 30 (fun _ => 0))), (q19, (oc6 5 24 q20 0)), (q20, (arI G 120 (fun _ => 0))), (q21, (oc6 10 4 q22 0)), (q22, (arI G 40 (fun _ => 0))), (q23, (oc6 8 5 q24 0)), (q24, (arI G 40 (fun _ => 0))), (q25, (oc6 6 6 q26 0)), (q26, (arI G 36 (fun _ => 0))), (q27, (arJ G 24 (fun _ => 0)))] hP hD ?_
  clear hP hD
  intro hP hD
  refine va_astq hx hb hK hP hD hS 14 3 15 1 rfl rfl rfl rfl (i := 0) (by unfold vp_in; decide) dX11_init_29 ?_
  clear hP hD hS
  intro H locs hP hD hS
  refine g5_rs [(a0, .inr (11, [.ref q1, .null, .null, .null, .null, .null, .null, .null, .null, .null, .int 0, .int 0, .int 0, .null, .int 0, .null, .int 0])), (q1, (oc1 0 1000 (-1) (-1) 0 q2 q3 q5 q7 q9 q11 0 q13)), (q2, (arW G 6 (fun _ => none))), (q3, (oc6 6 5 q4 0)), (q4, (arI G 30 (fun _ => 0))), (q5, (oc6 5 24 q6 0)), (q6, (arI G 120 (fun _ => 0))), (q7, (oc6 10 4 q8 0)), (q8, (arI G 40 (fun _ => 0))), (q9, (oc6 8 5 q10 0)), (q10, (arI G 40 (fun _ => 0))), (q11, (oc6 6 6 q12 0)), (q12, (arI G 36 (fun _ => 0))), (q13, (arJ G 24 (fun _ => 0))), (q14, (arH G 2 (va_up (fun _ => none) 0 (some q15)))), (q15, (oc1 0 1000 (-1) (-1) 0 q16 q17 q19 q21 q23 q25 0 q27)), (q16, (arW G 6 (fun _ => none))), (q17, (oc6 6 5 q18 0)), (q18, (arI G 30 (fun _ => 0))), (q19, (oc6 5 24 q20 0)), (q20, (arI G 120 (fun _ => 0))), (q21, (oc6 10 4 q22 0)), (q22, (arI G 40 (fun _ => 0))), (q23, (oc6 8 5 q24 0)), (q24, (arI G 40 (fun _ => 0))), (q25, (oc6 6 6 q26 0)), (q26, (arI G 36 (fun _ => 0))), (q27, (arJ G 24 (fun _ => 0)))] hP hD ?_
  clear hP hD
  intro hP hD
  refine lv_dup hx hb dX11_init_30 rfl ?_
  refine lv_iconst (v := 1) hx hb dX11_init_31 (by decide +kernel) ?_
  refine va_new (D := G.1) (ci := 1) (fs := [.long 0, .int 0, .int 0, .int 0, .int 0, .null, .null, .null, .null, .null, .null, .long 0, .null]) (C := RX1) (T := TX1) (N := 13) hx hb hts inG_X1 tyX1 tyX1_ok hown (hts _ cl_X11_9) (hts _ isn_X1) (hts _ ini_X1) hK hP hD hS hA rfl (fun j hj => by rcases (show j = 0 ∨ j = 1 ∨ j = 2 ∨ j = 3 ∨ j = 4 ∨ j = 5 ∨ j = 6 ∨ j = 7 ∨ j = 8 ∨ j = 9 ∨ j = 10 ∨ j = 11 ∨ j = 12 by omega) with rfl | rfl | rfl | rfl | rfl | rfl | rfl | rfl | rfl | rfl | rfl | rfl | rfl <;> rfl) (Nat.le_of_ble_eq_true rfl) (Nat.le_of_ble_eq_true rfl) dX11_init_32 (fun q28 H hP hD hS => ?_)
  refine g5_rs [(a0, .inr (11, [.ref q1, .null, .null, .null, .null, .null, .null, .null, .null, .null, .int 0, .int 0, .int 0, .null, .int 0, .null, .int 0])), (q1, (oc1 0 1000 (-1) (-1) 0 q2 q3 q5 q7 q9 q11 0 q13)), (q2, (arW G 6 (fun _ => none))), (q3, (oc6 6 5 q4 0)), (q4, (arI G 30 (fun _ => 0))), (q5, (oc6 5 24 q6 0)), (q6, (arI G 120 (fun _ => 0))), (q7, (oc6 10 4 q8 0)), (q8, (arI G 40 (fun _ => 0))), (q9, (oc6 8 5 q10 0)), (q10, (arI G 40 (fun _ => 0))), (q11, (oc6 6 6 q12 0)), (q12, (arI G 36 (fun _ => 0))), (q13, (arJ G 24 (fun _ => 0))), (q14, (arH G 2 (va_up (fun _ => none) 0 (some q15)))), (q15, (oc1 0 1000 (-1) (-1) 0 q16 q17 q19 q21 q23 q25 0 q27)), (q16, (arW G 6 (fun _ => none))), (q17, (oc6 6 5 q18 0)), (q18, (arI G 30 (fun _ => 0))), (q19, (oc6 5 24 q20 0)), (q20, (arI G 120 (fun _ => 0))), (q21, (oc6 10 4 q22 0)), (q22, (arI G 40 (fun _ => 0))), (q23, (oc6 8 5 q24 0)), (q24, (arI G 40 (fun _ => 0))), (q25, (oc6 6 6 q26 0)), (q26, (arI G 36 (fun _ => 0))), (q27, (arJ G 24 (fun _ => 0))), (q28, .inr (1, [.long 0, .int 0, .int 0, .int 0, .int 0, .null, .null, .null, .null, .null, .null, .long 0, .null]))] hP hD ?_
  clear hP hD
  intro hP hD
  refine W.widen (k := 28) (n := 673) (Nat.le_of_ble_eq_true rfl) (Nat.le_of_ble_eq_true rfl) ?_
  refine W.eq (g2 := F0 m 35 ls [.ref q28, .int 1, .ref q14, .ref q14, .ref a0]) rfl ?_
  refine lv_dup hx hb dX11_init_35 rfl ?_
  obtain ⟨hPc, hDc, hFc⟩ := g5_sub3 (wc := [(q28, .inr (1, [.long 0, .int 0, .int 0, .int 0, .int 0, .null, .null, .null, .null, .null, .null, .long 0, .null]))]) hP hD hS hA [28] (by decide +kernel) rfl
  refine va_callv (va_runIN (As := []) (rest := [.ref q28, .int 1, .ref q14, .ref q14, .ref a0]) ⟨hx, hb, hml, hown, hts⟩ (kX1_init l G q28 H.size) ⟨va_cnB 0 hts gW_X1_init rfl rfl rfl (hN.1 _ g5_nw_X11_11) (hts _ ini_X1) hs_X1_init ⟨Nat.le_of_ble_eq_true rfl, Nat.le_of_ble_eq_true rfl⟩, rfl, hts _ im_X1_init⟩ (g5_preS hPc hK hDc hN hT hS hFc) rfl rfl hl.1 rfl (lv_room (Nat.le_of_ble_eq_true rfl)) dX11_init_36 ⟨Nat.le_of_ble_eq_true rfl, Nat.le_of_ble_eq_true rfl⟩) hS (fun q _ h => hFc q h) hFc (fun u t H locs ht hvm hw hB hz1 hk1 hS => ?_)
  obtain ⟨hP1, hD1⟩ := hB
  have hP1 := g5_ht ht hP1
  refine W.widen (k := 40) (n := 989) (Nat.le_of_ble_eq_true rfl) (Nat.le_of_ble_eq_true rfl) ?_
  obtain ⟨q29, q30, q31, q32, q33, q34, q35, q36, q37, q38, q39, q40, rfl⟩ := hw
  have hJ9 := va_join (wr := [(a0, .inr (11, [.ref q1, .null, .null, .null, .null, .null, .null, .null, .null, .null, .int 0, .int 0, .int 0, .null, .int 0, .null, .int 0])), (q1, (oc1 0 1000 (-1) (-1) 0 q2 q3 q5 q7 q9 q11 0 q13)), (q2, (arW G 6 (fun _ => none))), (q3, (oc6 6 5 q4 0)), (q4, (arI G 30 (fun _ => 0))), (q5, (oc6 5 24 q6 0)), (q6, (arI G 120 (fun _ => 0))), (q7, (oc6 10 4 q8 0)), (q8, (arI G 40 (fun _ => 0))), (q9, (oc6 8 5 q10 0)), (q10, (arI G 40 (fun _ => 0))), (q11, (oc6 6 6 q12 0)), (q12, (arI G 36 (fun _ => 0))), (q13, (arJ G 24 (fun _ => 0))), (q14, (arH G 2 (va_up (fun _ => none) 0 (some q15)))), (q15, (oc1 0 1000 (-1) (-1) 0 q16 q17 q19 q21 q23 q25 0 q27)), (q16, (arW G 6 (fun _ => none))), (q17, (oc6 6 5 q18 0)), (q18, (arI G 30 (fun _ => 0))), (q19, (oc6 5 24 q20 0)), (q20, (arI G 120 (fun _ => 0))), (q21, (oc6 10 4 q22 0)), (q22, (arI G 40 (fun _ => 0))), (q23, (oc6 8 5 q24 0)), (q24, (arI G 40 (fun _ => 0))), (q25, (oc6 6 6 q26 0)), (q26, (arI G 36 (fun _ => 0))), (q27, (arJ G 24 (fun _ => 0)))]) hP hD [28] [0, 1, 2, 3, 4, 5, 6, 7, 8, 9, 10, 11, 12, 13, 14, 15, 16, 17, 18, 19, 20, 21, 22, 23, 24, 25, 26, 27] rfl rfl (by decide +kernel) (by decide +kernel) hk1 hFc hP1 hD1
  clear hP hD hPc hDc hFc ht hvm hz1 hk1 hP1 hD1
  obtain ⟨hP, hD⟩ := hJ9
  refine g5_rs [(a0, .inr (11, [.ref q1, .null, .null, .null, .null, .null, .null, .null, .null, .null, .int 0, .int 0, .int 0, .null, .int 0, .null, .int 0])), (q1, (oc1 0 1000 (-1) (-1) 0 q2 q3 q5 q7 q9 q11 0 q13)), (q2, (arW G 6 (fun _ => none))), (q3, (oc6 6 5 q4 0)), (q4, (arI G 30 (fun _ => 0))), (q5, (oc6 5 24 q6 0)), (q6, (arI G 120 (fun _ => 0))), (q7, (oc6 10 4 q8 0)), (q8, (arI G 40 (fun _ => 0))), (q9, (oc6 8 5 q10 0)), (q10, (arI G 40 (fun _ => 0))), (q11, (oc6 6 6 q12 0)), (q12, (arI G 36 (fun _ => 0))), (q13, (arJ G 24 (fun _ => 0))), (q14, (arH G 2 (va_up (fun _ => none) 0 (some q15)))), (q15, (oc1 0 1000 (-1) (-1) 0 q16 q17 q19 q21 q23 q25 0 q27)), (q16, (arW G 6 (fun _ => none))), (q17, (oc6 6 5 q18 0)), (q18, (arI G 30 (fun _ => 0))), (q19, (oc6 5 24 q20 0)), (q20, (arI G 120 (fun _ => 0))), (q21, (oc6 10 4 q22 0)), (q22, (arI G 40 (fun _ => 0))), (q23, (oc6 8 5 q24 0)), (q24, (arI G 40 (fun _ => 0))), (q25, (oc6 6 6 q26 0)), (q26, (arI G 36 (fun _ => 0))), (q27, (arJ G 24 (fun _ => 0))), (q28, (oc1 0 1000 (-1) (-1) 0 q29 q30 q32 q34 q36 q38 0 q40)), (q29, (arW G 6 (fun _ => none))), (q30, (oc6 6 5 q31 0)), (q31, (arI G 30 (fun _ => 0))), (q32, (oc6 5 24 q33 0)), (q33, (arI G 120 (fun _ => 0))), (q34, (oc6 10 4 q35 0)), (q35, (arI G 40 (fun _ => 0))), (q36, (oc6 8 5 q37 0)), (q37, (arI G 40 (fun _ => 0))), (q38, (oc6 6 6 q39 0)), (q39, (arI G 36 (fun _ => 0))), (q40, (arJ G 24 (fun _ => 0)))] hP hD ?_
  clear hP hD
  intro hP hD
  refine va_astq hx hb hK hP hD hS 14 3 28 1 rfl rfl rfl rfl (i := 1) (by unfold vp_in; decide) dX11_init_39 ?_
  clear hP hD hS
  intro H locs hP hD hS
  refine g5_rs [(a0, .inr (11, [.ref q1, .null, .null, .null, .null, .null, .null, .null, .null, .null, .int 0, .int 0, .int 0, .null, .int 0, .null, .int 0])), (q1, (oc1 0 1000 (-1) (-1) 0 q2 q3 q5 q7 q9 q11 0 q13)), (q2, (arW G 6 (fun _ => none))), (q3, (oc6 6 5 q4 0)), (q4, (arI G 30 (fun _ => 0))), (q5, (oc6 5 24 q6 0)), (q6, (arI G 120 (fun _ => 0))), (q7, (oc6 10 4 q8 0)), (q8, (arI G 40 (fun _ => 0))), (q9, (oc6 8 5 q10 0)), (q10, (arI G 40 (fun _ => 0))), (q11, (oc6 6 6 q12 0)), (q12, (arI G 36 (fun _ => 0))), (q13, (arJ G 24 (fun _ => 0))), (q14, (arH G 2 (va_up (va_up (fun _ => none) 0 (some q15)) 1 (some q28)))), (q15, (oc1 0 1000 (-1) (-1) 0 q16 q17 q19 q21 q23 q25 0 q27)), (q16, (arW G 6 (fun _ => none))), (q17, (oc6 6 5 q18 0)), (q18, (arI G 30 (fun _ => 0))), (q19, (oc6 5 24 q20 0)), (q20, (arI G 120 (fun _ => 0))), (q21, (oc6 10 4 q22 0)), (q22, (arI G 40 (fun _ => 0))), (q23, (oc6 8 5 q24 0)), (q24, (arI G 40 (fun _ => 0))), (q25, (oc6 6 6 q26 0)), (q26, (arI G 36 (fun _ => 0))), (q27, (arJ G 24 (fun _ => 0))), (q28, (oc1 0 1000 (-1) (-1) 0 q29 q30 q32 q34 q36 q38 0 q40)), (q29, (arW G 6 (fun _ => none))), (q30, (oc6 6 5 q31 0)), (q31, (arI G 30 (fun _ => 0))), (q32, (oc6 5 24 q33 0)), (q33, (arI G 120 (fun _ => 0))), (q34, (oc6 10 4 q35 0)), (q35, (arI G 40 (fun _ => 0))), (q36, (oc6 8 5 q37 0)), (q37, (arI G 40 (fun _ => 0))), (q38, (oc6 6 6 q39 0)), (q39, (arI G 36 (fun _ => 0))), (q40, (arJ G 24 (fun _ => 0)))] hP hD ?_
  clear hP hD
  intro hP hD
  refine va_putF (D := G.1) (ci := 11) (v := .ref q14) (ty := .array (.object "LateGlass$House")) (C := RX11) (T := TX11) (N := 17) hx hb hts inG_X11 tyX11 tyX11_ok nmX11 hown hK hP hD hS 0 rfl rfl 1 (by decide +kernel) (hts _ fl_X11_16) (fun _ h9 => h9) rfl hin rfl (by decide +kernel) rfl rfl (Nat.le_of_ble_eq_true rfl) dX11_init_40 ?_
  clear hP hD hS
  intro H locs hP hD hS
  refine g5_rs [(a0, .inr (11, [.ref q1, .ref q14, .null, .null, .null, .null, .null, .null, .null, .null, .int 0, .int 0, .int 0, .null, .int 0, .null, .int 0])), (q1, (oc1 0 1000 (-1) (-1) 0 q2 q3 q5 q7 q9 q11 0 q13)), (q2, (arW G 6 (fun _ => none))), (q3, (oc6 6 5 q4 0)), (q4, (arI G 30 (fun _ => 0))), (q5, (oc6 5 24 q6 0)), (q6, (arI G 120 (fun _ => 0))), (q7, (oc6 10 4 q8 0)), (q8, (arI G 40 (fun _ => 0))), (q9, (oc6 8 5 q10 0)), (q10, (arI G 40 (fun _ => 0))), (q11, (oc6 6 6 q12 0)), (q12, (arI G 36 (fun _ => 0))), (q13, (arJ G 24 (fun _ => 0))), (q14, (arH G 2 (va_up (va_up (fun _ => none) 0 (some q15)) 1 (some q28)))), (q15, (oc1 0 1000 (-1) (-1) 0 q16 q17 q19 q21 q23 q25 0 q27)), (q16, (arW G 6 (fun _ => none))), (q17, (oc6 6 5 q18 0)), (q18, (arI G 30 (fun _ => 0))), (q19, (oc6 5 24 q20 0)), (q20, (arI G 120 (fun _ => 0))), (q21, (oc6 10 4 q22 0)), (q22, (arI G 40 (fun _ => 0))), (q23, (oc6 8 5 q24 0)), (q24, (arI G 40 (fun _ => 0))), (q25, (oc6 6 6 q26 0)), (q26, (arI G 36 (fun _ => 0))), (q27, (arJ G 24 (fun _ => 0))), (q28, (oc1 0 1000 (-1) (-1) 0 q29 q30 q32 q34 q36 q38 0 q40)), (q29, (arW G 6 (fun _ => none))), (q30, (oc6 6 5 q31 0)), (q31, (arI G 30 (fun _ => 0))), (q32, (oc6 5 24 q33 0)), (q33, (arI G 120 (fun _ => 0))), (q34, (oc6 10 4 q35 0)), (q35, (arI G 40 (fun _ => 0))), (q36, (oc6 8 5 q37 0)), (q37, (arI G 40 (fun _ => 0))), (q38, (oc6 6 6 q39 0)), (q39, (arI G 36 (fun _ => 0))), (q40, (arJ G 24 (fun _ => 0)))] hP hD ?_
  clear hP hD
  intro hP hD
  refine lv_aload_n hx hb dX11_init_43 rfl (lv_at hl 0 rfl) ?_
  refine W.eq (g2 := F0 m 44 ls [.ref a0]) rfl ?_
  refine lv_iconst (v := 2) hx hb dX11_init_44 (by decide +kernel) ?_
  refine va_newa (D := G.1) (atype := .boolean) (ty := .boolean) hx hb (hts _ acl_Z) rfl hK hP hD hS hA (n := 2) (N' := 2) (a0 := (2, .inl (fun _ => 0))) (fun _ => rfl) (by decide +kernel) (by decide +kernel) (by decide +kernel) (Nat.le_of_ble_eq_true rfl) (Nat.le_of_ble_eq_true rfl) dX11_init_45 (fun q41 cA H hKn hP hD hS => ?_)
  obtain rfl : cA = G.2 2 := g5_cZ hKn
  refine g5_rs [(a0, .inr (11, [.ref q1, .ref q14, .null, .null, .null, .null, .null, .null, .null, .null, .int 0, .int 0, .int 0, .null, .int 0, .null, .int 0])), (q1, (oc1 0 1000 (-1) (-1) 0 q2 q3 q5 q7 q9 q11 0 q13)), (q2, (arW G 6 (fun _ => none))), (q3, (oc6 6 5 q4 0)), (q4, (arI G 30 (fun _ => 0))), (q5, (oc6 5 24 q6 0)), (q6, (arI G 120 (fun _ => 0))), (q7, (oc6 10 4 q8 0)), (q8, (arI G 40 (fun _ => 0))), (q9, (oc6 8 5 q10 0)), (q10, (arI G 40 (fun _ => 0))), (q11, (oc6 6 6 q12 0)), (q12, (arI G 36 (fun _ => 0))), (q13, (arJ G 24 (fun _ => 0))), (q14, (arH G 2 (va_up (va_up (fun _ => none) 0 (some q15)) 1 (some q28)))), (q15, (oc1 0 1000 (-1) (-1) 0 q16 q17 q19 q21 q23 q25 0 q27)), (q16, (arW G 6 (fun _ => none))), (q17, (oc6 6 5 q18 0)), (q18, (arI G 30 (fun _ => 0))), (q19, (oc6 5 24 q20 0)), (q20, (arI G 120 (fun _ => 0))), (q21, (oc6 10 4 q22 0)), (q22, (arI G 40 (fun _ => 0))), (q23, (oc6 8 5 q24 0)), (q24, (arI G 40 (fun _ => 0))), (q25, (oc6 6 6 q26 0)), (q26, (arI G 36 (fun _ => 0))), (q27, (arJ G 24 (fun _ => 0))), (q28, (oc1 0 1000 (-1) (-1) 0 q29 q30 q32 q34 q36 q38 0 q40)), (q29, (arW G 6 (fun _ => none))), (q30, (oc6 6 5 q31 0)), (q31, (arI G 30 (fun _ => 0))), (q32, (oc6 5 24 q33 0)), (q33, (arI G 120 (fun _ => 0))), (q34, (oc6 10 4 q35 0)), (q35, (arI G 40 (fun _ => 0))), (q36, (oc6 8 5 q37 0)), (q37, (arI G 40 (fun _ => 0))), (q38, (oc6 6 6 q39 0)), (q39, (arI G 36 (fun _ => 0))), (q40, (arJ G 24 (fun _ => 0))), (q41, (arZ G 2 (fun _ => 0)))] hP hD ?_
  clear hP hD
  intro hP hD
  refine W.widen (k := 41) (n := 991) (Nat.le_of_ble_eq_true rfl) (Nat.le_of_ble_eq_true rfl) ?_
  refine va_putF (D := G.1) (ci := 11) (v := .ref q41) (ty := .array .boolean) (C := RX11) (T := TX11) (N := 17) hx hb hts inG_X11 tyX11 tyX11_ok nmX11 hown hK hP hD hS 0 rfl rfl 2 (by decide +kernel) (hts _ fl_X11_20) (fun _ h9 => h9) rfl hin rfl (by decide +kernel) rfl rfl (Nat.le_of_ble_eq_true rfl) dX11_init_47 ?_
  clear hP hD hS
  intro H locs hP hD hS
  refine g5_rs [(a0, .inr (11, [.ref q1, .ref q14, .ref q41, .null, .null, .null, .null, .null, .null, .null, .int 0, .int 0, .int 0, .null, .int 0, .null, .int 0])), (q1, (oc1 0 1000 (-1) (-1) 0 q2 q3 q5 q7 q9 q11 0 q13)), (q2, (arW G 6 (fun _ => none))), (q3, (oc6 6 5 q4 0)), (q4, (arI G 30 (fun _ => 0))), (q5, (oc6 5 24 q6 0)), (q6, (arI G 120 (fun _ => 0))), (q7, (oc6 10 4 q8 0)), (q8, (arI G 40 (fun _ => 0))), (q9, (oc6 8 5 q10 0)), (q10, (arI G 40 (fun _ => 0))), (q11, (oc6 6 6 q12 0)), (q12, (arI G 36 (fun _ => 0))), (q13, (arJ G 24 (fun _ => 0))), (q14, (arH G 2 (va_up (va_up (fun _ => none) 0 (some q15)) 1 (some q28)))), (q15, (oc1 0 1000 (-1) (-1) 0 q16 q17 q19 q21 q23 q25 0 q27)), (q16, (arW G 6 (fun _ => none))), (q17, (oc6 6 5 q18 0)), (q18, (arI G 30 (fun _ => 0))), (q19, (oc6 5 24 q20 0)), (q20, (arI G 120 (fun _ => 0))), (q21, (oc6 10 4 q22 0)), (q22, (arI G 40 (fun _ => 0))), (q23, (oc6 8 5 q24 0)), (q24, (arI G 40 (fun _ => 0))), (q25, (oc6 6 6 q26 0)), (q26, (arI G 36 (fun _ => 0))), (q27, (arJ G 24 (fun _ => 0))), (q28, (oc1 0 1000 (-1) (-1) 0 q29 q30 q32 q34 q36 q38 0 q40)), (q29, (arW G 6 (fun _ => none))), (q30, (oc6 6 5 q31 0)), (q31, (arI G 30 (fun _ => 0))), (q32, (oc6 5 24 q33 0)), (q33, (arI G 120 (fun _ => 0))), (q34, (oc6 10 4 q35 0)), (q35, (arI G 40 (fun _ => 0))), (q36, (oc6 8 5 q37 0)), (q37, (arI G 40 (fun _ => 0))), (q38, (oc6 6 6 q39 0)), (q39, (arI G 36 (fun _ => 0))), (q40, (arJ G 24 (fun _ => 0))), (q41, (arZ G 2 (fun _ => 0)))] hP hD ?_
  clear hP hD
  intro hP hD
  refine lv_aload_n hx hb dX11_init_50 rfl (lv_at hl 0 rfl) ?_
  refine va_new (D := G.1) (ci := 5) (fs := [.null, .null, .null, .int 0, .int 0, .int 0, .int 0, .int 0, .int 0, .int 0, .int 0, .int 0, .int 0]) (C := RX5) (T := TX5) (N := 13) hx hb hts inG_X5 tyX5 tyX5_ok hown (hts _ cl_X11_24) (hts _ isn_X5) (hts _ ini_X5) hK hP hD hS hA rfl (fun j hj => by rcases (show j = 0 ∨ j = 1 ∨ j = 2 ∨ j = 3 ∨ j = 4 ∨ j = 5 ∨ j = 6 ∨ j = 7 ∨ j = 8 ∨ j = 9 ∨ j = 10 ∨ j = 11 ∨ j = 12 by omega) with rfl | rfl | rfl | rfl | rfl | rfl | rfl | rfl | rfl | rfl | rfl | rfl | rfl <;> rfl) (Nat.le_of_ble_eq_true rfl) (Nat.le_of_ble_eq_true rfl) dX11_init_51 (fun q42 H hP hD hS => ?_)
  refine g5_rs [(a0, .inr (11, [.ref q1, .ref q14, .ref q41, .null, .null, .null, .null, .null, .null, .null, .int 0, .int 0, .int 0, .null, .int 0, .null, .int 0])), (q1, (oc1 0 1000 (-1) (-1) 0 q2 q3 q5 q7 q9 q11 0 q13)), (q2, (arW G 6 (fun _ => none))), (q3, (oc6 6 5 q4 0)), (q4, (arI G 30 (fun _ => 0))), (q5, (oc6 5 24 q6 0)), (q6, (arI G 120 (fun _ => 0))), (q7, (oc6 10 4 q8 0)), (q8, (arI G 40 (fun _ => 0))), (q9, (oc6 8 5 q10 0)), (q10, (arI G 40 (fun _ => 0))), (q11, (oc6 6 6 q12 0)), (q12, (arI G 36 (fun _ => 0))), (q13, (arJ G 24 (fun _ => 0))), (q14, (arH G 2 (va_up (va_up (fun _ => none) 0 (some q15)) 1 (some q28)))), (q15, (oc1 0 1000 (-1) (-1) 0 q16 q17 q19 q21 q23 q25 0 q27)), (q16, (arW G 6 (fun _ => none))), (q17, (oc6 6 5 q18 0)), (q18, (arI G 30 (fun _ => 0))), (q19, (oc6 5 24 q20 0)), (q20, (arI G 120 (fun _ => 0))), (q21, (oc6 10 4 q22 0)), (q22, (arI G 40 (fun _ => 0))), (q23, (oc6 8 5 q24 0)), (q24, (arI G 40 (fun _ => 0))), (q25, (oc6 6 6 q26 0)), (q26, (arI G 36 (fun _ => 0))), (q27, (arJ G 24 (fun _ => 0))), (q28, (oc1 0 1000 (-1) (-1) 0 q29 q30 q32 q34 q36 q38 0 q40)), (q29, (arW G 6 (fun _ => none))), (q30, (oc6 6 5 q31 0)), (q31, (arI G 30 (fun _ => 0))), (q32, (oc6 5 24 q33 0)), (q33, (arI G 120 (fun _ => 0))), (q34, (oc6 10 4 q35 0)), (q35, (arI G 40 (fun _ => 0))), (q36, (oc6 8 5 q37 0)), (q37, (arI G 40 (fun _ => 0))), (q38, (oc6 6 6 q39 0)), (q39, (arI G 36 (fun _ => 0))), (q40, (arJ G 24 (fun _ => 0))), (q41, (arZ G 2 (fun _ => 0))), (q42, .inr (5, [.null, .null, .null, .int 0, .int 0, .int 0, .int 0, .int 0, .int 0, .int 0, .int 0, .int 0, .int 0]))] hP hD ?_
  clear hP hD
  intro hP hD
  refine W.widen (k := 42) (n := 1004) (Nat.le_of_ble_eq_true rfl) (Nat.le_of_ble_eq_true rfl) ?_
  refine W.eq (g2 := F0 m 54 ls [.ref q42, .ref a0]) rfl ?_
  refine lv_dup hx hb dX11_init_54 rfl ?_
  refine lv_aload_n hx hb dX11_init_55 rfl (lv_at hl 0 rfl) ?_
  refine va_get (D := G.1) (ci := 11) (v := .ref q1) (C := RX11) (T := TX11) (N := 17) hx hb hts inG_X11 hown hK hP 0 rfl rfl 0 (by decide +kernel) (hts _ fl_X11_12) (fun _ h9 => h9) rfl dX11_init_56 ?_
  obtain ⟨hPc, hDc, hFc⟩ := g5_sub3 (wc := [(q42, .inr (5, [.null, .null, .null, .int 0, .int 0, .int 0, .int 0, .int 0, .int 0, .int 0, .int 0, .int 0, .int 0]))]) hP hD hS hA [42] (by decide +kernel) rfl
  refine va_callv (va_runI (As := [.ref q1]) (rest := [.ref q42, .ref a0]) ⟨hx, hb, hml, hown, hts⟩ (kX5_init l G q42 q1 H.size) (cwI 1 hts gW_X5_init rfl rfl rfl (hts _ ini_X5) (hts _ ml_X11_26) (hts _ im_X5_init) rfl hs_X5_init ⟨Nat.le_of_ble_eq_true rfl, Nat.le_of_ble_eq_true rfl⟩) (g5_preS hPc hK hDc hN hT hS hFc) rfl rfl hl.1 rfl (lv_room (Nat.le_of_ble_eq_true rfl)) dX11_init_59 ⟨Nat.le_of_ble_eq_true rfl, Nat.le_of_ble_eq_true rfl⟩) hS (fun q _ h => hFc q h) hFc (fun u t H locs ht hvm hw hB hz1 hk1 hS => ?_)
  obtain ⟨hP1, hD1⟩ := hB
  have hP1 := g5_ht ht hP1
  refine W.widen (k := 46) (n := 1264) (Nat.le_of_ble_eq_true rfl) (Nat.le_of_ble_eq_true rfl) ?_
  obtain ⟨q43, q44, q45, q46, rfl⟩ := hw
  have hJ9 := va_join (wr := [(a0, .inr (11, [.ref q1, .ref q14, .ref q41, .null, .null, .null, .null, .null, .null, .null, .int 0, .int 0, .int 0, .null, .int 0, .null, .int 0])), (q1, (oc1 0 1000 (-1) (-1) 0 q2 q3 q5 q7 q9 q11 0 q13)), (q2, (arW G 6 (fun _ => none))), (q3, (oc6 6 5 q4 0)), (q4, (arI G 30 (fun _ => 0))), (q5, (oc6 5 24 q6 0)), (q6, (arI G 120 (fun _ => 0))), (q7, (oc6 10 4 q8 0)), (q8, (arI G 40 (fun _ => 0))), (q9, (oc6 8 5 q10 0)), (q10, (arI G 40 (fun _ => 0))), (q11, (oc6 6 6 q12 0)), (q12, (arI G 36 (fun _ => 0))), (q13, (arJ G 24 (fun _ => 0))), (q14, (arH G 2 (va_up (va_up (fun _ => none) 0 (some q15)) 1 (some q28)))), (q15, (oc1 0 1000 (-1) (-1) 0 q16 q17 q19 q21 q23 q25 0 q27)), (q16, (arW G 6 (fun _ => none))), (q17, (oc6 6 5 q18 0)), (q18, (arI G 30 (fun _ => 0))), (q19, (oc6 5 24 q20 0)), (q20, (arI G 120 (fun _ => 0))), (q21, (oc6 10 4 q22 0)), (q22, (arI G 40 (fun _ => 0))), (q23, (oc6 8 5 q24 0)), (q24, (arI G 40 (fun _ => 0))), (q25, (oc6 6 6 q26 0)), (q26, (arI G 36 (fun _ => 0))), (q27, (arJ G 24 (fun _ => 0))), (q28, (oc1 0 1000 (-1) (-1) 0 q29 q30 q32 q34 q36 q38 0 q40)), (q29, (arW G 6 (fun _ => none))), (q30, (oc6 6 5 q31 0)), (q31, (arI G 30 (fun _ => 0))), (q32, (oc6 5 24 q33 0)), (q33, (arI G 120 (fun _ => 0))), (q34, (oc6 10 4 q35 0)), (q35, (arI G 40 (fun _ => 0))), (q36, (oc6 8 5 q37 0)), (q37, (arI G 40 (fun _ => 0))), (q38, (oc6 6 6 q39 0)), (q39, (arI G 36 (fun _ => 0))), (q40, (arJ G 24 (fun _ => 0))), (q41, (arZ G 2 (fun _ => 0)))]) hP hD [42] [0, 1, 2, 3, 4, 5, 6, 7, 8, 9, 10, 11, 12, 13, 14, 15, 16, 17, 18, 19, 20, 21, 22, 23, 24, 25, 26, 27, 28, 29, 30, 31, 32, 33, 34, 35, 36, 37, 38, 39, 40, 41] rfl rfl (by decide +kernel) (by decide +kernel) hk1 hFc hP1 hD1
  clear hP hD hPc hDc hFc ht hvm hz1 hk1 hP1 hD1
  obtain ⟨hP, hD⟩ := hJ9
  refine g5_rs [(a0, .inr (11, [.ref q1, .ref q14, .ref q41, .null, .null, .null, .null, .null, .null, .null, .int 0, .int 0, .int 0, .null, .int 0, .null, .int 0])), (q1, (oc1 0 1000 (-1) (-1) 0 q2 q3 q5 q7 q9 q11 0 q13)), (q2, (arW G 6 (fun _ => none))), (q3, (oc6 6 5 q4 0)), (q4, (arI G 30 (fun _ => 0))), (q5, (oc6 5 24 q6 0)), (q6, (arI G 120 (fun _ => 0))), (q7, (oc6 10 4 q8 0)), (q8, (arI G 40 (fun _ => 0))), (q9, (oc6 8 5 q10 0)), (q10, (arI G 40 (fun _ => 0))), (q11, (oc6 6 6 q12 0)), (q12, (arI G 36 (fun _ => 0))), (q13, (arJ G 24 (fun _ => 0))), (q14, (arH G 2 (va_up (va_up (fun _ => none) 0 (some q15)) 1 (some q28)))), (q15, (oc1 0 1000 (-1) (-1) 0 q16 q17 q19 q21 q23 q25 0 q27)), (q16, (arW G 6 (fun _ => none))), (q17, (oc6 6 5 q18 0)), (q18, (arI G 30 (fun _ => 0))), (q19, (oc6 5 24 q20 0)), (q20, (arI G 120 (fun _ => 0))), (q21, (oc6 10 4 q22 0)), (q22, (arI G 40 (fun _ => 0))), (q23, (oc6 8 5 q24 0)), (q24, (arI G 40 (fun _ => 0))), (q25, (oc6 6 6 q26 0)), (q26, (arI G 36 (fun _ => 0))), (q27, (arJ G 24 (fun _ => 0))), (q28, (oc1 0 1000 (-1) (-1) 0 q29 q30 q32 q34 q36 q38 0 q40)), (q29, (arW G 6 (fun _ => none))), (q30, (oc6 6 5 q31 0)), (q31, (arI G 30 (fun _ => 0))), (q32, (oc6 5 24 q33 0)), (q33, (arI G 120 (fun _ => 0))), (q34, (oc6 10 4 q35 0)), (q35, (arI G 40 (fun _ => 0))), (q36, (oc6 8 5 q37 0)), (q37, (arI G 40 (fun _ => 0))), (q38, (oc6 6 6 q39 0)), (q39, (arI G 36 (fun _ => 0))), (q40, (arJ G 24 (fun _ => 0))), (q41, (arZ G 2 (fun _ => 0))), (q42, (oc5 q1 q43 q46 0 0 0 0 0 0 0 0 0 0)), (q43, (oc2 q44 q45)), (q44, (arI G 8 (fun _ => 0))), (q45, (arJ G 50 (fun _ => 0))), (q46, (arI G 200 (fun _ => 0)))] hP hD ?_
  clear hP hD
  intro hP hD
  refine va_putF (D := G.1) (ci := 11) (v := .ref q42) (ty := .object "LateGlass$Look") (C := RX11) (T := TX11) (N := 17) hx hb hts inG_X11 tyX11 tyX11_ok nmX11 hown hK hP hD hS 0 rfl rfl 3 (by decide +kernel) (hts _ fl_X11_29) (fun _ h9 => h9) rfl hin rfl (by decide +kernel) rfl rfl (Nat.le_of_ble_eq_true rfl) dX11_init_62 ?_
  clear hP hD hS
  intro H locs hP hD hS
  refine g5_rs [(a0, .inr (11, [.ref q1, .ref q14, .ref q41, .ref q42, .null, .null, .null, .null, .null, .null, .int 0, .int 0, .int 0, .null, .int 0, .null, .int 0])), (q1, (oc1 0 1000 (-1) (-1) 0 q2 q3 q5 q7 q9 q11 0 q13)), (q2, (arW G 6 (fun _ => none))), (q3, (oc6 6 5 q4 0)), (q4, (arI G 30 (fun _ => 0))), (q5, (oc6 5 24 q6 0)), (q6, (arI G 120 (fun _ => 0))), (q7, (oc6 10 4 q8 0)), (q8, (arI G 40 (fun _ => 0))), (q9, (oc6 8 5 q10 0)), (q10, (arI G 40 (fun _ => 0))), (q11, (oc6 6 6 q12 0)), (q12, (arI G 36 (fun _ => 0))), (q13, (arJ G 24 (fun _ => 0))), (q14, (arH G 2 (va_up (va_up (fun _ => none) 0 (some q15)) 1 (some q28)))), (q15, (oc1 0 1000 (-1) (-1) 0 q16 q17 q19 q21 q23 q25 0 q27)), (q16, (arW G 6 (fun _ => none))), (q17, (oc6 6 5 q18 0)), (q18, (arI G 30 (fun _ => 0))), (q19, (oc6 5 24 q20 0)), (q20, (arI G 120 (fun _ => 0))), (q21, (oc6 10 4 q22 0)), (q22, (arI G 40 (fun _ => 0))), (q23, (oc6 8 5 q24 0)), (q24, (arI G 40 (fun _ => 0))), (q25, (oc6 6 6 q26 0)), (q26, (arI G 36 (fun _ => 0))), (q27, (arJ G 24 (fun _ => 0))), (q28, (oc1 0 1000 (-1) (-1) 0 q29 q30 q32 q34 q36 q38 0 q40)), (q29, (arW G 6 (fun _ => none))), (q30, (oc6 6 5 q31 0)), (q31, (arI G 30 (fun _ => 0))), (q32, (oc6 5 24 q33 0)), (q33, (arI G 120 (fun _ => 0))), (q34, (oc6 10 4 q35 0)), (q35, (arI G 40 (fun _ => 0))), (q36, (oc6 8 5 q37 0)), (q37, (arI G 40 (fun _ => 0))), (q38, (oc6 6 6 q39 0)), (q39, (arI G 36 (fun _ => 0))), (q40, (arJ G 24 (fun _ => 0))), (q41, (arZ G 2 (fun _ => 0))), (q42, (oc5 q1 q43 q46 0 0 0 0 0 0 0 0 0 0)), (q43, (oc2 q44 q45)), (q44, (arI G 8 (fun _ => 0))), (q45, (arJ G 50 (fun _ => 0))), (q46, (arI G 200 (fun _ => 0)))] hP hD ?_
  clear hP hD
  intro hP hD
  refine W.eq (g2 := F0 m 65 ls []) rfl ?_
  refine lv_aload_n hx hb dX11_init_65 rfl (lv_at hl 0 rfl) ?_
  refine va_new (D := G.1) (ci := 10) (fs := [.null, .null, .null]) (C := RX10) (T := TX10) (N := 3) hx hb hts inG_X10 tyX10 tyX10_ok hown (hts _ cl_X11_33) (hts _ isn_X10) (hts _ ini_X10) hK hP hD hS hA rfl (fun j hj => by rcases (show j = 0 ∨ j = 1 ∨ j = 2 by omega) with rfl | rfl | rfl <;> rfl) (Nat.le_of_ble_eq_true rfl) (Nat.le_of_ble_eq_true rfl) dX11_init_66 (fun q47 H hP hD hS => ?_)
  refine g5_rs [(a0, .inr (11, [.ref q1, .ref q14, .ref q41, .ref q42, .null, .null, .null, .null, .null, .null, .int 0, .int 0, .int 0, .null, .int 0, .null, .int 0])), (q1, (oc1 0 1000 (-1) (-1) 0 q2 q3 q5 q7 q9 q11 0 q13)), (q2, (arW G 6 (fun _ => none))), (q3, (oc6 6 5 q4 0)), (q4, (arI G 30 (fun _ => 0))), (q5, (oc6 5 24 q6 0)), (q6, (arI G 120 (fun _ => 0))), (q7, (oc6 10 4 q8 0)), (q8, (arI G 40 (fun _ => 0))), (q9, (oc6 8 5 q10 0)), (q10, (arI G 40 (fun _ => 0))), (q11, (oc6 6 6 q12 0)), (q12, (arI G 36 (fun _ => 0))), (q13, (arJ G 24 (fun _ => 0))), (q14, (arH G 2 (va_up (va_up (fun _ => none) 0 (some q15)) 1 (some q28)))), (q15, (oc1 0 1000 (-1) (-1) 0 q16 q17 q19 q21 q23 q25 0 q27)), (q16, (arW G 6 (fun _ => none))), (q17, (oc6 6 5 q18 0)), (q18, (arI G 30 (fun _ => 0))), (q19, (oc6 5 24 q20 0)), (q20, (arI G 120 (fun _ => 0))), (q21, (oc6 10 4 q22 0)), (q22, (arI G 40 (fun _ => 0))), (q23, (oc6 8 5 q24 0)), (q24, (arI G 40 (fun _ => 0))), (q25, (oc6 6 6 q26 0)), (q26, (arI G 36 (fun _ => 0))), (q27, (arJ G 24 (fun _ => 0))), (q28, (oc1 0 1000 (-1) (-1) 0 q29 q30 q32 q34 q36 q38 0 q40)), (q29, (arW G 6 (fun _ => none))), (q30, (oc6 6 5 q31 0)), (q31, (arI G 30 (fun _ => 0))), (q32, (oc6 5 24 q33 0)), (q33, (arI G 120 (fun _ => 0))), (q34, (oc6 10 4 q35 0)), (q35, (arI G 40 (fun _ => 0))), (q36, (oc6 8 5 q37 0)), (q37, (arI G 40 (fun _ => 0))), (q38, (oc6 6 6 q39 0)), (q39, (arI G 36 (fun _ => 0))), (q40, (arJ G 24 (fun _ => 0))), (q41, (arZ G 2 (fun _ => 0))), (q42, (oc5 q1 q43 q46 0 0 0 0 0 0 0 0 0 0)), (q43, (oc2 q44 q45)), (q44, (arI G 8 (fun _ => 0))), (q45, (arJ G 50 (fun _ => 0))), (q46, (arI G 200 (fun _ => 0))), (q47, .inr (10, [.null, .null, .null]))] hP hD ?_
  clear hP hD
  intro hP hD
  refine W.widen (k := 47) (n := 1267) (Nat.le_of_ble_eq_true rfl) (Nat.le_of_ble_eq_true rfl) ?_
  refine lv_dup hx hb dX11_init_69 rfl ?_
  refine lv_aload_n hx hb dX11_init_70 rfl (lv_at hl 0 rfl) ?_
  refine va_get (D := G.1) (ci := 11) (v := .ref q1) (C := RX11) (T := TX11) (N := 17) hx hb hts inG_X11 hown hK hP 0 rfl rfl 0 (by decide +kernel) (hts _ fl_X11_12) (fun _ h9 => h9) rfl dX11_init_71 ?_
  refine W.eq (g2 := F0 m 74 ls [.ref q1, .ref q47, .ref q47, .ref a0]) rfl ?_
  refine lv_aload_n hx hb dX11_init_74 rfl (lv_at hl 0 rfl) ?_
  refine va_get (D := G.1) (ci := 11) (v := .ref q42) (C := RX11) (T := TX11) (N := 17) hx hb hts inG_X11 hown hK hP 0 rfl rfl 3 (by decide +kernel) (hts _ fl_X11_29) (fun _ h9 => h9) rfl dX11_init_75 ?_
  obtain ⟨hPc, hDc, hFc⟩ := g5_sub3 (wc := [(q47, .inr (10, [.null, .null, .null]))]) hP hD hS hA [47] (by decide +kernel) rfl
  refine va_callv (va_runI (As := [.ref q1, .ref q42]) (rest := [.ref q47, .ref a0]) ⟨hx, hb, hml, hown, hts⟩ (kX10_init l G q47 q1 q42 H.size) (cwI 2 hts gW_X10_init rfl rfl rfl (hts _ ini_X10) (hts _ ml_X11_35) (hts _ im_X10_init) rfl hs_X10_init ⟨Nat.le_of_ble_eq_true rfl, Nat.le_of_ble_eq_true rfl⟩) (g5_preS hPc hK hDc hN hT hS hFc) rfl rfl hl.1 rfl (lv_room (Nat.le_of_ble_eq_true rfl)) dX11_init_78 ⟨Nat.le_of_ble_eq_true rfl, Nat.le_of_ble_eq_true rfl⟩) hS (fun q _ h => hFc q h) hFc (fun u t H locs ht hvm hw hB hz1 hk1 hS => ?_)
  obtain ⟨hP1, hD1⟩ := hB
  have hP1 := g5_ht ht hP1
  refine W.widen (k := 48) (n := 1291) (Nat.le_of_ble_eq_true rfl) (Nat.le_of_ble_eq_true rfl) ?_
  obtain ⟨q48, rfl⟩ := hw
  have hJ9 := va_join (wr := [(a0, .inr (11, [.ref q1, .ref q14, .ref q41, .ref q42, .null, .null, .null, .null, .null, .null, .int 0, .int 0, .int 0, .null, .int 0, .null, .int 0])), (q1, (oc1 0 1000 (-1) (-1) 0 q2 q3 q5 q7 q9 q11 0 q13)), (q2, (arW G 6 (fun _ => none))), (q3, (oc6 6 5 q4 0)), (q4, (arI G 30 (fun _ => 0))), (q5, (oc6 5 24 q6 0)), (q6, (arI G 120 (fun _ => 0))), (q7, (oc6 10 4 q8 0)), (q8, (arI G 40 (fun _ => 0))), (q9, (oc6 8 5 q10 0)), (q10, (arI G 40 (fun _ => 0))), (q11, (oc6 6 6 q12 0)), (q12, (arI G 36 (fun _ => 0))), (q13, (arJ G 24 (fun _ => 0))), (q14, (arH G 2 (va_up (va_up (fun _ => none) 0 (some q15)) 1 (some q28)))), (q15, (oc1 0 1000 (-1) (-1) 0 q16 q17 q19 q21 q23 q25 0 q27)), (q16, (arW G 6 (fun _ => none))), (q17, (oc6 6 5 q18 0)), (q18, (arI G 30 (fun _ => 0))), (q19, (oc6 5 24 q20 0)), (q20, (arI G 120 (fun _ => 0))), (q21, (oc6 10 4 q22 0)), (q22, (arI G 40 (fun _ => 0))), (q23, (oc6 8 5 q24 0)), (q24, (arI G 40 (fun _ => 0))), (q25, (oc6 6 6 q26 0)), (q26, (arI G 36 (fun _ => 0))), (q27, (arJ G 24 (fun _ => 0))), (q28, (oc1 0 1000 (-1) (-1) 0 q29 q30 q32 q34 q36 q38 0 q40)), (q29, (arW G 6 (fun _ => none))), (q30, (oc6 6 5 q31 0)), (q31, (arI G 30 (fun _ => 0))), (q32, (oc6 5 24 q33 0)), (q33, (arI G 120 (fun _ => 0))), (q34, (oc6 10 4 q35 0)), (q35, (arI G 40 (fun _ => 0))), (q36, (oc6 8 5 q37 0)), (q37, (arI G 40 (fun _ => 0))), (q38, (oc6 6 6 q39 0)), (q39, (arI G 36 (fun _ => 0))), (q40, (arJ G 24 (fun _ => 0))), (q41, (arZ G 2 (fun _ => 0))), (q42, (oc5 q1 q43 q46 0 0 0 0 0 0 0 0 0 0)), (q43, (oc2 q44 q45)), (q44, (arI G 8 (fun _ => 0))), (q45, (arJ G 50 (fun _ => 0))), (q46, (arI G 200 (fun _ => 0)))]) hP hD [47] [0, 1, 2, 3, 4, 5, 6, 7, 8, 9, 10, 11, 12, 13, 14, 15, 16, 17, 18, 19, 20, 21, 22, 23, 24, 25, 26, 27, 28, 29, 30, 31, 32, 33, 34, 35, 36, 37, 38, 39, 40, 41, 42, 43, 44, 45, 46] rfl rfl (by decide +kernel) (by decide +kernel) hk1 hFc hP1 hD1
  clear hP hD hPc hDc hFc ht hvm hz1 hk1 hP1 hD1
  obtain ⟨hP, hD⟩ := hJ9
  refine g5_rs [(a0, .inr (11, [.ref q1, .ref q14, .ref q41, .ref q42, .null, .null, .null, .null, .null, .null, .int 0, .int 0, .int 0, .null, .int 0, .null, .int 0])), (q1, (oc1 0 1000 (-1) (-1) 0 q2 q3 q5 q7 q9 q11 0 q13)), (q2, (arW G 6 (fun _ => none))), (q3, (oc6 6 5 q4 0)), (q4, (arI G 30 (fun _ => 0))), (q5, (oc6 5 24 q6 0)), (q6, (arI G 120 (fun _ => 0))), (q7, (oc6 10 4 q8 0)), (q8, (arI G 40 (fun _ => 0))), (q9, (oc6 8 5 q10 0)), (q10, (arI G 40 (fun _ => 0))), (q11, (oc6 6 6 q12 0)), (q12, (arI G 36 (fun _ => 0))), (q13, (arJ G 24 (fun _ => 0))), (q14, (arH G 2 (va_up (va_up (fun _ => none) 0 (some q15)) 1 (some q28)))), (q15, (oc1 0 1000 (-1) (-1) 0 q16 q17 q19 q21 q23 q25 0 q27)), (q16, (arW G 6 (fun _ => none))), (q17, (oc6 6 5 q18 0)), (q18, (arI G 30 (fun _ => 0))), (q19, (oc6 5 24 q20 0)), (q20, (arI G 120 (fun _ => 0))), (q21, (oc6 10 4 q22 0)), (q22, (arI G 40 (fun _ => 0))), (q23, (oc6 8 5 q24 0)), (q24, (arI G 40 (fun _ => 0))), (q25, (oc6 6 6 q26 0)), (q26, (arI G 36 (fun _ => 0))), (q27, (arJ G 24 (fun _ => 0))), (q28, (oc1 0 1000 (-1) (-1) 0 q29 q30 q32 q34 q36 q38 0 q40)), (q29, (arW G 6 (fun _ => none))), (q30, (oc6 6 5 q31 0)), (q31, (arI G 30 (fun _ => 0))), (q32, (oc6 5 24 q33 0)), (q33, (arI G 120 (fun _ => 0))), (q34, (oc6 10 4 q35 0)), (q35, (arI G 40 (fun _ => 0))), (q36, (oc6 8 5 q37 0)), (q37, (arI G 40 (fun _ => 0))), (q38, (oc6 6 6 q39 0)), (q39, (arI G 36 (fun _ => 0))), (q40, (arJ G 24 (fun _ => 0))), (q41, (arZ G 2 (fun _ => 0))), (q42, (oc5 q1 q43 q46 0 0 0 0 0 0 0 0 0 0)), (q43, (oc2 q44 q45)), (q44, (arI G 8 (fun _ => 0))), (q45, (arJ G 50 (fun _ => 0))), (q46, (arI G 200 (fun _ => 0))), (q47, (oc10 q1 q42 q48)), (q48, (arJ G 24 (fun _ => 0)))] hP hD ?_
  clear hP hD
  intro hP hD
  refine va_putF (D := G.1) (ci := 11) (v := .ref q47) (ty := .object "LateGlass$Watch") (C := RX11) (T := TX11) (N := 17) hx hb hts inG_X11 tyX11 tyX11_ok nmX11 hown hK hP hD hS 0 rfl rfl 4 (by decide +kernel) (hts _ fl_X11_38) (fun _ h9 => h9) rfl hin rfl (by decide +kernel) rfl rfl (Nat.le_of_ble_eq_true rfl) dX11_init_81 ?_
  clear hP hD hS
  intro H locs hP hD hS
  refine g5_rs [(a0, .inr (11, [.ref q1, .ref q14, .ref q41, .ref q42, .ref q47, .null, .null, .null, .null, .null, .int 0, .int 0, .int 0, .null, .int 0, .null, .int 0])), (q1, (oc1 0 1000 (-1) (-1) 0 q2 q3 q5 q7 q9 q11 0 q13)), (q2, (arW G 6 (fun _ => none))), (q3, (oc6 6 5 q4 0)), (q4, (arI G 30 (fun _ => 0))), (q5, (oc6 5 24 q6 0)), (q6, (arI G 120 (fun _ => 0))), (q7, (oc6 10 4 q8 0)), (q8, (arI G 40 (fun _ => 0))), (q9, (oc6 8 5 q10 0)), (q10, (arI G 40 (fun _ => 0))), (q11, (oc6 6 6 q12 0)), (q12, (arI G 36 (fun _ => 0))), (q13, (arJ G 24 (fun _ => 0))), (q14, (arH G 2 (va_up (va_up (fun _ => none) 0 (some q15)) 1 (some q28)))), (q15, (oc1 0 1000 (-1) (-1) 0 q16 q17 q19 q21 q23 q25 0 q27)), (q16, (arW G 6 (fun _ => none))), (q17, (oc6 6 5 q18 0)), (q18, (arI G 30 (fun _ => 0))), (q19, (oc6 5 24 q20 0)), (q20, (arI G 120 (fun _ => 0))), (q21, (oc6 10 4 q22 0)), (q22, (arI G 40 (fun _ => 0))), (q23, (oc6 8 5 q24 0)), (q24, (arI G 40 (fun _ => 0))), (q25, (oc6 6 6 q26 0)), (q26, (arI G 36 (fun _ => 0))), (q27, (arJ G 24 (fun _ => 0))), (q28, (oc1 0 1000 (-1) (-1) 0 q29 q30 q32 q34 q36 q38 0 q40)), (q29, (arW G 6 (fun _ => none))), (q30, (oc6 6 5 q31 0)), (q31, (arI G 30 (fun _ => 0))), (q32, (oc6 5 24 q33 0)), (q33, (arI G 120 (fun _ => 0))), (q34, (oc6 10 4 q35 0)), (q35, (arI G 40 (fun _ => 0))), (q36, (oc6 8 5 q37 0)), (q37, (arI G 40 (fun _ => 0))), (q38, (oc6 6 6 q39 0)), (q39, (arI G 36 (fun _ => 0))), (q40, (arJ G 24 (fun _ => 0))), (q41, (arZ G 2 (fun _ => 0))), (q42, (oc5 q1 q43 q46 0 0 0 0 0 0 0 0 0 0)), (q43, (oc2 q44 q45)), (q44, (arI G 8 (fun _ => 0))), (q45, (arJ G 50 (fun _ => 0))), (q46, (arI G 200 (fun _ => 0))), (q47, (oc10 q1 q42 q48)), (q48, (arJ G 24 (fun _ => 0)))] hP hD ?_
  clear hP hD
  intro hP hD
  refine lv_aload_n hx hb dX11_init_84 rfl (lv_at hl 0 rfl) ?_
  refine W.eq (g2 := F0 m 85 ls [.ref a0]) rfl ?_
  refine va_new (D := G.1) (ci := 7) (fs := [.null, .null, .null, .null, .int 0, .null, .null, .null, .null, .null]) (C := RX7) (T := TX7) (N := 10) hx hb hts inG_X7 tyX7 tyX7_ok hown (hts _ cl_X11_42) (hts _ isn_X7) (hts _ ini_X7) hK hP hD hS hA rfl (fun j hj => by rcases (show j = 0 ∨ j = 1 ∨ j = 2 ∨ j = 3 ∨ j = 4 ∨ j = 5 ∨ j = 6 ∨ j = 7 ∨ j = 8 ∨ j = 9 by omega) with rfl | rfl | rfl | rfl | rfl | rfl | rfl | rfl | rfl | rfl <;> rfl) (Nat.le_of_ble_eq_true rfl) (Nat.le_of_ble_eq_true rfl) dX11_init_85 (fun q49 H hP hD hS => ?_)
  refine g5_rs [(a0, .inr (11, [.ref q1, .ref q14, .ref q41, .ref q42, .ref q47, .null, .null, .null, .null, .null, .int 0, .int 0, .int 0, .null, .int 0, .null, .int 0])), (q1, (oc1 0 1000 (-1) (-1) 0 q2 q3 q5 q7 q9 q11 0 q13)), (q2, (arW G 6 (fun _ => none))), (q3, (oc6 6 5 q4 0)), (q4, (arI G 30 (fun _ => 0))), (q5, (oc6 5 24 q6 0)), (q6, (arI G 120 (fun _ => 0))), (q7, (oc6 10 4 q8 0)), (q8, (arI G 40 (fun _ => 0))), (q9, (oc6 8 5 q10 0)), (q10, (arI G 40 (fun _ => 0))), (q11, (oc6 6 6 q12 0)), (q12, (arI G 36 (fun _ => 0))), (q13, (arJ G 24 (fun _ => 0))), (q14, (arH G 2 (va_up (va_up (fun _ => none) 0 (some q15)) 1 (some q28)))), (q15, (oc1 0 1000 (-1) (-1) 0 q16 q17 q19 q21 q23 q25 0 q27)), (q16, (arW G 6 (fun _ => none))), (q17, (oc6 6 5 q18 0)), (q18, (arI G 30 (fun _ => 0))), (q19, (oc6 5 24 q20 0)), (q20, (arI G 120 (fun _ => 0))), (q21, (oc6 10 4 q22 0)), (q22, (arI G 40 (fun _ => 0))), (q23, (oc6 8 5 q24 0)), (q24, (arI G 40 (fun _ => 0))), (q25, (oc6 6 6 q26 0)), (q26, (arI G 36 (fun _ => 0))), (q27, (arJ G 24 (fun _ => 0))), (q28, (oc1 0 1000 (-1) (-1) 0 q29 q30 q32 q34 q36 q38 0 q40)), (q29, (arW G 6 (fun _ => none))), (q30, (oc6 6 5 q31 0)), (q31, (arI G 30 (fun _ => 0))), (q32, (oc6 5 24 q33 0)), (q33, (arI G 120 (fun _ => 0))), (q34, (oc6 10 4 q35 0)), (q35, (arI G 40 (fun _ => 0))), (q36, (oc6 8 5 q37 0)), (q37, (arI G 40 (fun _ => 0))), (q38, (oc6 6 6 q39 0)), (q39, (arI G 36 (fun _ => 0))), (q40, (arJ G 24 (fun _ => 0))), (q41, (arZ G 2 (fun _ => 0))), (q42, (oc5 q1 q43 q46 0 0 0 0 0 0 0 0 0 0)), (q43, (oc2 q44 q45)), (q44, (arI G 8 (fun _ => 0))), (q45, (arJ G 50 (fun _ => 0))), (q46, (arI G 200 (fun _ => 0))), (q47, (oc10 q1 q42 q48)), (q48, (arJ G 24 (fun _ => 0))), (q49, .inr (7, [.null, .null, .null, .null, .int 0, .null, .null, .null, .null, .null]))] hP hD ?_
  clear hP hD
  intro hP hD
  refine W.widen (k := 49) (n := 1301) (Nat.le_of_ble_eq_true rfl) (Nat.le_of_ble_eq_true rfl) ?_
  refine lv_dup hx hb dX11_init_88 rfl ?_
  refine lv_aload_n hx hb dX11_init_89 rfl (lv_at hl 0 rfl) ?_
  refine va_get (D := G.1) (ci := 11) (v := .ref q1) (C := RX11) (T := TX11) (N := 17) hx hb hts inG_X11 hown hK hP 0 rfl rfl 0 (by decide +kernel) (hts _ fl_X11_12) (fun _ h9 => h9) rfl dX11_init_90 ?_
  refine lv_aload_n hx hb dX11_init_93 rfl (lv_at hl 0 rfl) ?_
  refine W.eq (g2 := F0 m 94 ls [.ref a0, .ref q1, .ref q49, .ref q49, .ref a0]) rfl ?_
  refine va_get (D := G.1) (ci := 11) (v := .ref q42) (C := RX11) (T := TX11) (N := 17) hx hb hts inG_X11 hown hK hP 0 rfl rfl 3 (by decide +kernel) (hts _ fl_X11_29) (fun _ h9 => h9) rfl dX11_init_94 ?_
  obtain ⟨hPc, hDc, hFc⟩ := g5_sub3 (wc := [(q49, .inr (7, [.null, .null, .null, .null, .int 0, .null, .null, .null, .null, .null]))]) hP hD hS hA [49] (by decide +kernel) rfl
  refine va_callv (va_runI (As := [.ref q1, .ref q42]) (rest := [.ref q49, .ref a0]) ⟨hx, hb, hml, hown, hts⟩ (kX7_init l G q49 q1 q42 H.size) (cwI 2 hts gW_X7_init rfl rfl rfl (hts _ ini_X7) (hts _ ml_X11_44) (hts _ im_X7_init) rfl hs_X7_init ⟨Nat.le_of_ble_eq_true rfl, Nat.le_of_ble_eq_true rfl⟩) (g5_preS hPc hK hDc hN hT hS hFc) rfl rfl hl.1 rfl (lv_room (Nat.le_of_ble_eq_true rfl)) dX11_init_97 ⟨Nat.le_of_ble_eq_true rfl, Nat.le_of_ble_eq_true rfl⟩) hS (fun q _ h => hFc q h) hFc (fun u t H locs ht hvm hw hB hz1 hk1 hS => ?_)
  obtain ⟨hP1, hD1⟩ := hB
  have hP1 := g5_ht ht hP1
  refine W.widen (k := 56) (n := 8621) (Nat.le_of_ble_eq_true rfl) (Nat.le_of_ble_eq_true rfl) ?_
  obtain ⟨q50, q51, q52, q53, q54, q55, q56, rfl⟩ := hw
  have hJ9 := va_join (wr := [(a0, .inr (11, [.ref q1, .ref q14, .ref q41, .ref q42, .ref q47, .null, .null, .null, .null, .null, .int 0, .int 0, .int 0, .null, .int 0, .null, .int 0])), (q1, (oc1 0 1000 (-1) (-1) 0 q2 q3 q5 q7 q9 q11 0 q13)), (q2, (arW G 6 (fun _ => none))), (q3, (oc6 6 5 q4 0)), (q4, (arI G 30 (fun _ => 0))), (q5, (oc6 5 24 q6 0)), (q6, (arI G 120 (fun _ => 0))), (q7, (oc6 10 4 q8 0)), (q8, (arI G 40 (fun _ => 0))), (q9, (oc6 8 5 q10 0)), (q10, (arI G 40 (fun _ => 0))), (q11, (oc6 6 6 q12 0)), (q12, (arI G 36 (fun _ => 0))), (q13, (arJ G 24 (fun _ => 0))), (q14, (arH G 2 (va_up (va_up (fun _ => none) 0 (some q15)) 1 (some q28)))), (q15, (oc1 0 1000 (-1) (-1) 0 q16 q17 q19 q21 q23 q25 0 q27)), (q16, (arW G 6 (fun _ => none))), (q17, (oc6 6 5 q18 0)), (q18, (arI G 30 (fun _ => 0))), (q19, (oc6 5 24 q20 0)), (q20, (arI G 120 (fun _ => 0))), (q21, (oc6 10 4 q22 0)), (q22, (arI G 40 (fun _ => 0))), (q23, (oc6 8 5 q24 0)), (q24, (arI G 40 (fun _ => 0))), (q25, (oc6 6 6 q26 0)), (q26, (arI G 36 (fun _ => 0))), (q27, (arJ G 24 (fun _ => 0))), (q28, (oc1 0 1000 (-1) (-1) 0 q29 q30 q32 q34 q36 q38 0 q40)), (q29, (arW G 6 (fun _ => none))), (q30, (oc6 6 5 q31 0)), (q31, (arI G 30 (fun _ => 0))), (q32, (oc6 5 24 q33 0)), (q33, (arI G 120 (fun _ => 0))), (q34, (oc6 10 4 q35 0)), (q35, (arI G 40 (fun _ => 0))), (q36, (oc6 8 5 q37 0)), (q37, (arI G 40 (fun _ => 0))), (q38, (oc6 6 6 q39 0)), (q39, (arI G 36 (fun _ => 0))), (q40, (arJ G 24 (fun _ => 0))), (q41, (arZ G 2 (fun _ => 0))), (q42, (oc5 q1 q43 q46 0 0 0 0 0 0 0 0 0 0)), (q43, (oc2 q44 q45)), (q44, (arI G 8 (fun _ => 0))), (q45, (arJ G 50 (fun _ => 0))), (q46, (arI G 200 (fun _ => 0))), (q47, (oc10 q1 q42 q48)), (q48, (arJ G 24 (fun _ => 0)))]) hP hD [49] [0, 1, 2, 3, 4, 5, 6, 7, 8, 9, 10, 11, 12, 13, 14, 15, 16, 17, 18, 19, 20, 21, 22, 23, 24, 25, 26, 27, 28, 29, 30, 31, 32, 33, 34, 35, 36, 37, 38, 39, 40, 41, 42, 43, 44, 45, 46, 47, 48] rfl rfl (by decide +kernel) (by decide +kernel) hk1 hFc hP1 hD1
  clear hP hD hPc hDc hFc ht hvm hz1 hk1 hP1 hD1
  obtain ⟨hP, hD⟩ := hJ9
  refine g5_rs [(a0, .inr (11, [.ref q1, .ref q14, .ref q41, .ref q42, .ref q47, .null, .null, .null, .null, .null, .int 0, .int 0, .int 0, .null, .int 0, .null, .int 0])), (q1, (oc1 0 1000 (-1) (-1) 0 q2 q3 q5 q7 q9 q11 0 q13)), (q2, (arW G 6 (fun _ => none))), (q3, (oc6 6 5 q4 0)), (q4, (arI G 30 (fun _ => 0))), (q5, (oc6 5 24 q6 0)), (q6, (arI G 120 (fun _ => 0))), (q7, (oc6 10 4 q8 0)), (q8, (arI G 40 (fun _ => 0))), (q9, (oc6 8 5 q10 0)), (q10, (arI G 40 (fun _ => 0))), (q11, (oc6 6 6 q12 0)), (q12, (arI G 36 (fun _ => 0))), (q13, (arJ G 24 (fun _ => 0))), (q14, (arH G 2 (va_up (va_up (fun _ => none) 0 (some q15)) 1 (some q28)))), (q15, (oc1 0 1000 (-1) (-1) 0 q16 q17 q19 q21 q23 q25 0 q27)), (q16, (arW G 6 (fun _ => none))), (q17, (oc6 6 5 q18 0)), (q18, (arI G 30 (fun _ => 0))), (q19, (oc6 5 24 q20 0)), (q20, (arI G 120 (fun _ => 0))), (q21, (oc6 10 4 q22 0)), (q22, (arI G 40 (fun _ => 0))), (q23, (oc6 8 5 q24 0)), (q24, (arI G 40 (fun _ => 0))), (q25, (oc6 6 6 q26 0)), (q26, (arI G 36 (fun _ => 0))), (q27, (arJ G 24 (fun _ => 0))), (q28, (oc1 0 1000 (-1) (-1) 0 q29 q30 q32 q34 q36 q38 0 q40)), (q29, (arW G 6 (fun _ => none))), (q30, (oc6 6 5 q31 0)), (q31, (arI G 30 (fun _ => 0))), (q32, (oc6 5 24 q33 0)), (q33, (arI G 120 (fun _ => 0))), (q34, (oc6 10 4 q35 0)), (q35, (arI G 40 (fun _ => 0))), (q36, (oc6 8 5 q37 0)), (q37, (arI G 40 (fun _ => 0))), (q38, (oc6 6 6 q39 0)), (q39, (arI G 36 (fun _ => 0))), (q40, (arJ G 24 (fun _ => 0))), (q41, (arZ G 2 (fun _ => 0))), (q42, (oc5 q1 q43 q46 0 0 0 0 0 0 0 0 0 0)), (q43, (oc2 q44 q45)), (q44, (arI G 8 (fun _ => 0))), (q45, (arJ G 50 (fun _ => 0))), (q46, (arI G 200 (fun _ => 0))), (q47, (oc10 q1 q42 q48)), (q48, (arJ G 24 (fun _ => 0))), (q49, (oc7 q1 q42 q50 q51 0 q52 q53 q54 q55 q56)), (q50, (arJ G 24 (fun _ => 0))), (q51, (arI G 1536 (fun _ => 0))), (q52, (arJ G 2048 (fun _ => 0))), (q53, (arJ G 2048 (fun _ => 0))), (q54, (arI G 1536 (fun _ => 0))), (q55, (arI G 64 (fun _ => 0))), (q56, (arI G 64 (fun _ => 0)))] hP hD ?_
  clear hP hD
  intro hP hD
  refine va_putF (D := G.1) (ci := 11) (v := .ref q49) (ty := .object "LateGlass$Thief") (C := RX11) (T := TX11) (N := 17) hx hb hts inG_X11 tyX11 tyX11_ok nmX11 hown hK hP hD hS 0 rfl rfl 5 (by decide +kernel) (hts _ fl_X11_45) (fun _ h9 => h9) rfl hin rfl (by decide +kernel) rfl rfl (Nat.le_of_ble_eq_true rfl) dX11_init_100 ?_
  clear hP hD hS
  intro H locs hP hD hS
  refine g5_rs [(a0, .inr (11, [.ref q1, .ref q14, .ref q41, .ref q42, .ref q47, .ref q49, .null, .null, .null, .null, .int 0, .int 0, .int 0, .null, .int 0, .null, .int 0])), (q1, (oc1 0 1000 (-1) (-1) 0 q2 q3 q5 q7 q9 q11 0 q13)), (q2, (arW G 6 (fun _ => none))), (q3, (oc6 6 5 q4 0)), (q4, (arI G 30 (fun _ => 0))), (q5, (oc6 5 24 q6 0)), (q6, (arI G 120 (fun _ => 0))), (q7, (oc6 10 4 q8 0)), (q8, (arI G 40 (fun _ => 0))), (q9, (oc6 8 5 q10 0)), (q10, (arI G 40 (fun _ => 0))), (q11, (oc6 6 6 q12 0)), (q12, (arI G 36 (fun _ => 0))), (q13, (arJ G 24 (fun _ => 0))), (q14, (arH G 2 (va_up (va_up (fun _ => none) 0 (some q15)) 1 (some q28)))), (q15, (oc1 0 1000 (-1) (-1) 0 q16 q17 q19 q21 q23 q25 0 q27)), (q16, (arW G 6 (fun _ => none))), (q17, (oc6 6 5 q18 0)), (q18, (arI G 30 (fun _ => 0))), (q19, (oc6 5 24 q20 0)), (q20, (arI G 120 (fun _ => 0))), (q21, (oc6 10 4 q22 0)), (q22, (arI G 40 (fun _ => 0))), (q23, (oc6 8 5 q24 0)), (q24, (arI G 40 (fun _ => 0))), (q25, (oc6 6 6 q26 0)), (q26, (arI G 36 (fun _ => 0))), (q27, (arJ G 24 (fun _ => 0))), (q28, (oc1 0 1000 (-1) (-1) 0 q29 q30 q32 q34 q36 q38 0 q40)), (q29, (arW G 6 (fun _ => none))), (q30, (oc6 6 5 q31 0)), (q31, (arI G 30 (fun _ => 0))), (q32, (oc6 5 24 q33 0)), (q33, (arI G 120 (fun _ => 0))), (q34, (oc6 10 4 q35 0)), (q35, (arI G 40 (fun _ => 0))), (q36, (oc6 8 5 q37 0)), (q37, (arI G 40 (fun _ => 0))), (q38, (oc6 6 6 q39 0)), (q39, (arI G 36 (fun _ => 0))), (q40, (arJ G 24 (fun _ => 0))), (q41, (arZ G 2 (fun _ => 0))), (q42, (oc5 q1 q43 q46 0 0 0 0 0 0 0 0 0 0)), (q43, (oc2 q44 q45)), (q44, (arI G 8 (fun _ => 0))), (q45, (arJ G 50 (fun _ => 0))), (q46, (arI G 200 (fun _ => 0))), (q47, (oc10 q1 q42 q48)), (q48, (arJ G 24 (fun _ => 0))), (q49, (oc7 q1 q42 q50 q51 0 q52 q53 q54 q55 q56)), (q50, (arJ G 24 (fun _ => 0))), (q51, (arI G 1536 (fun _ => 0))), (q52, (arJ G 2048 (fun _ => 0))), (q53, (arJ G 2048 (fun _ => 0))), (q54, (arI G 1536 (fun _ => 0))), (q55, (arI G 64 (fun _ => 0))), (q56, (arI G 64 (fun _ => 0)))] hP hD ?_
  clear hP hD
  intro hP hD
  refine lv_aload_n hx hb dX11_init_103 rfl (lv_at hl 0 rfl) ?_
  refine va_new (D := G.1) (ci := 0) (fs := [.null, .null, .int 0, .int 0, .int 0]) (C := RX0) (T := TX0) (N := 5) hx hb hts inG_X0 tyX0 tyX0_ok hown (hts _ cl_X11_49) (hts _ isn_X0) (hts _ ini_X0) hK hP hD hS hA rfl (fun j hj => by rcases (show j = 0 ∨ j = 1 ∨ j = 2 ∨ j = 3 ∨ j = 4 by omega) with rfl | rfl | rfl | rfl | rfl <;> rfl) (Nat.le_of_ble_eq_true rfl) (Nat.le_of_ble_eq_true rfl) dX11_init_104 (fun q57 H hP hD hS => ?_)
  refine g5_rs [(a0, .inr (11, [.ref q1, .ref q14, .ref q41, .ref q42, .ref q47, .ref q49, .null, .null, .null, .null, .int 0, .int 0, .int 0, .null, .int 0, .null, .int 0])), (q1, (oc1 0 1000 (-1) (-1) 0 q2 q3 q5 q7 q9 q11 0 q13)), (q2, (arW G 6 (fun _ => none))), (q3, (oc6 6 5 q4 0)), (q4, (arI G 30 (fun _ => 0))), (q5, (oc6 5 24 q6 0)), (q6, (arI G 120 (fun _ => 0))), (q7, (oc6 10 4 q8 0)), (q8, (arI G 40 (fun _ => 0))), (q9, (oc6 8 5 q10 0)), (q10, (arI G 40 (fun _ => 0))), (q11, (oc6 6 6 q12 0)), (q12, (arI G 36 (fun _ => 0))), (q13, (arJ G 24 (fun _ => 0))), (q14, (arH G 2 (va_up (va_up (fun _ => none) 0 (some q15)) 1 (some q28)))), (q15, (oc1 0 1000 (-1) (-1) 0 q16 q17 q19 q21 q23 q25 0 q27)), (q16, (arW G 6 (fun _ => none))), (q17, (oc6 6 5 q18 0)), (q18, (arI G 30 (fun _ => 0))), (q19, (oc6 5 24 q20 0)), (q20, (arI G 120 (fun _ => 0))), (q21, (oc6 10 4 q22 0)), (q22, (arI G 40 (fun _ => 0))), (q23, (oc6 8 5 q24 0)), (q24, (arI G 40 (fun _ => 0))), (q25, (oc6 6 6 q26 0)), (q26, (arI G 36 (fun _ => 0))), (q27, (arJ G 24 (fun _ => 0))), (q28, (oc1 0 1000 (-1) (-1) 0 q29 q30 q32 q34 q36 q38 0 q40)), (q29, (arW G 6 (fun _ => none))), (q30, (oc6 6 5 q31 0)), (q31, (arI G 30 (fun _ => 0))), (q32, (oc6 5 24 q33 0)), (q33, (arI G 120 (fun _ => 0))), (q34, (oc6 10 4 q35 0)), (q35, (arI G 40 (fun _ => 0))), (q36, (oc6 8 5 q37 0)), (q37, (arI G 40 (fun _ => 0))), (q38, (oc6 6 6 q39 0)), (q39, (arI G 36 (fun _ => 0))), (q40, (arJ G 24 (fun _ => 0))), (q41, (arZ G 2 (fun _ => 0))), (q42, (oc5 q1 q43 q46 0 0 0 0 0 0 0 0 0 0)), (q43, (oc2 q44 q45)), (q44, (arI G 8 (fun _ => 0))), (q45, (arJ G 50 (fun _ => 0))), (q46, (arI G 200 (fun _ => 0))), (q47, (oc10 q1 q42 q48)), (q48, (arJ G 24 (fun _ => 0))), (q49, (oc7 q1 q42 q50 q51 0 q52 q53 q54 q55 q56)), (q50, (arJ G 24 (fun _ => 0))), (q51, (arI G 1536 (fun _ => 0))), (q52, (arJ G 2048 (fun _ => 0))), (q53, (arJ G 2048 (fun _ => 0))), (q54, (arI G 1536 (fun _ => 0))), (q55, (arI G 64 (fun _ => 0))), (q56, (arI G 64 (fun _ => 0))), (q57, .inr (0, [.null, .null, .int 0, .int 0, .int 0]))] hP hD ?_
  clear hP hD
  intro hP hD
  refine W.widen (k := 57) (n := 8626) (Nat.le_of_ble_eq_true rfl) (Nat.le_of_ble_eq_true rfl) ?_
  refine W.eq (g2 := F0 m 107 ls [.ref q57, .ref a0]) rfl ?_
  refine lv_dup hx hb dX11_init_107 rfl ?_
  refine lv_aload_n hx hb dX11_init_108 rfl (lv_at hl 0 rfl) ?_
  refine va_get (D := G.1) (ci := 11) (v := .ref q1) (C := RX11) (T := TX11) (N := 17) hx hb hts inG_X11 hown hK hP 0 rfl rfl 0 (by decide +kernel) (hts _ fl_X11_12) (fun _ h9 => h9) rfl dX11_init_109 ?_
  refine lv_aload_n hx hb dX11_init_112 rfl (lv_at hl 0 rfl) ?_
  refine va_get (D := G.1) (ci := 11) (v := .ref q42) (C := RX11) (T := TX11) (N := 17) hx hb hts inG_X11 hown hK hP 0 rfl rfl 3 (by decide +kernel) (hts _ fl_X11_29) (fun _ h9 => h9) rfl dX11_init_113 ?_
  refine W.eq (g2 := F0 m 116 ls [.ref q42, .ref q1, .ref q57, .ref q57, .ref a0]) rfl ?_
  obtain ⟨hPc, hDc, hFc⟩ := g5_sub3 (wc := [(q57, .inr (0, [.null, .null, .int 0, .int 0, .int 0]))]) hP hD hS hA [57] (by decide +kernel) rfl
  refine va_callv (va_runI (As := [.ref q1, .ref q42]) (rest := [.ref q57, .ref a0]) ⟨hx, hb, hml, hown, hts⟩ (kX0_init l G q57 q1 q42 H.size) (cwI 2 hts gW_X0_init rfl rfl rfl (hts _ ini_X0) (hts _ ml_X11_51) (hts _ im_X0_init) rfl hs_X0_init ⟨Nat.le_of_ble_eq_true rfl, Nat.le_of_ble_eq_true rfl⟩) (g5_preS hPc hK hDc hN hT hS hFc) rfl rfl hl.1 rfl (lv_room (Nat.le_of_ble_eq_true rfl)) dX11_init_116 ⟨Nat.le_of_ble_eq_true rfl, Nat.le_of_ble_eq_true rfl⟩) hS (fun q _ h => hFc q h) hFc (fun u t H locs ht hvm hw hB hz1 hk1 hS => ?_)
  obtain ⟨hP1, hD1⟩ := hB
  have hP1 := g5_ht ht hP1
  obtain rfl := hw
  have hJ9 := va_join (wr := [(a0, .inr (11, [.ref q1, .ref q14, .ref q41, .ref q42, .ref q47, .ref q49, .null, .null, .null, .null, .int 0, .int 0, .int 0, .null, .int 0, .null, .int 0])), (q1, (oc1 0 1000 (-1) (-1) 0 q2 q3 q5 q7 q9 q11 0 q13)), (q2, (arW G 6 (fun _ => none))), (q3, (oc6 6 5 q4 0)), (q4, (arI G 30 (fun _ => 0))), (q5, (oc6 5 24 q6 0)), (q6, (arI G 120 (fun _ => 0))), (q7, (oc6 10 4 q8 0)), (q8, (arI G 40 (fun _ => 0))), (q9, (oc6 8 5 q10 0)), (q10, (arI G 40 (fun _ => 0))), (q11, (oc6 6 6 q12 0)), (q12, (arI G 36 (fun _ => 0))), (q13, (arJ G 24 (fun _ => 0))), (q14, (arH G 2 (va_up (va_up (fun _ => none) 0 (some q15)) 1 (some q28)))), (q15, (oc1 0 1000 (-1) (-1) 0 q16 q17 q19 q21 q23 q25 0 q27)), (q16, (arW G 6 (fun _ => none))), (q17, (oc6 6 5 q18 0)), (q18, (arI G 30 (fun _ => 0))), (q19, (oc6 5 24 q20 0)), (q20, (arI G 120 (fun _ => 0))), (q21, (oc6 10 4 q22 0)), (q22, (arI G 40 (fun _ => 0))), (q23, (oc6 8 5 q24 0)), (q24, (arI G 40 (fun _ => 0))), (q25, (oc6 6 6 q26 0)), (q26, (arI G 36 (fun _ => 0))), (q27, (arJ G 24 (fun _ => 0))), (q28, (oc1 0 1000 (-1) (-1) 0 q29 q30 q32 q34 q36 q38 0 q40)), (q29, (arW G 6 (fun _ => none))), (q30, (oc6 6 5 q31 0)), (q31, (arI G 30 (fun _ => 0))), (q32, (oc6 5 24 q33 0)), (q33, (arI G 120 (fun _ => 0))), (q34, (oc6 10 4 q35 0)), (q35, (arI G 40 (fun _ => 0))), (q36, (oc6 8 5 q37 0)), (q37, (arI G 40 (fun _ => 0))), (q38, (oc6 6 6 q39 0)), (q39, (arI G 36 (fun _ => 0))), (q40, (arJ G 24 (fun _ => 0))), (q41, (arZ G 2 (fun _ => 0))), (q42, (oc5 q1 q43 q46 0 0 0 0 0 0 0 0 0 0)), (q43, (oc2 q44 q45)), (q44, (arI G 8 (fun _ => 0))), (q45, (arJ G 50 (fun _ => 0))), (q46, (arI G 200 (fun _ => 0))), (q47, (oc10 q1 q42 q48)), (q48, (arJ G 24 (fun _ => 0))), (q49, (oc7 q1 q42 q50 q51 0 q52 q53 q54 q55 q56)), (q50, (arJ G 24 (fun _ => 0))), (q51, (arI G 1536 (fun _ => 0))), (q52, (arJ G 2048 (fun _ => 0))), (q53, (arJ G 2048 (fun _ => 0))), (q54, (arI G 1536 (fun _ => 0))), (q55, (arI G 64 (fun _ => 0))), (q56, (arI G 64 (fun _ => 0)))]) hP hD [57] [0, 1, 2, 3, 4, 5, 6, 7, 8, 9, 10, 11, 12, 13, 14, 15, 16, 17, 18, 19, 20, 21, 22, 23, 24, 25, 26, 27, 28, 29, 30, 31, 32, 33, 34, 35, 36, 37, 38, 39, 40, 41, 42, 43, 44, 45, 46, 47, 48, 49, 50, 51, 52, 53, 54, 55, 56] rfl rfl (by decide +kernel) (by decide +kernel) hk1 hFc hP1 hD1
  clear hP hD hPc hDc hFc ht hvm hz1 hk1 hP1 hD1
  obtain ⟨hP, hD⟩ := hJ9
  refine g5_rs [(a0, .inr (11, [.ref q1, .ref q14, .ref q41, .ref q42, .ref q47, .ref q49, .null, .null, .null, .null, .int 0, .int 0, .int 0, .null, .int 0, .null, .int 0])), (q1, (oc1 0 1000 (-1) (-1) 0 q2 q3 q5 q7 q9 q11 0 q13)), (q2, (arW G 6 (fun _ => none))), (q3, (oc6 6 5 q4 0)), (q4, (arI G 30 (fun _ => 0))), (q5, (oc6 5 24 q6 0)), (q6, (arI G 120 (fun _ => 0))), (q7, (oc6 10 4 q8 0)), (q8, (arI G 40 (fun _ => 0))), (q9, (oc6 8 5 q10 0)), (q10, (arI G 40 (fun _ => 0))), (q11, (oc6 6 6 q12 0)), (q12, (arI G 36 (fun _ => 0))), (q13, (arJ G 24 (fun _ => 0))), (q14, (arH G 2 (va_up (va_up (fun _ => none) 0 (some q15)) 1 (some q28)))), (q15, (oc1 0 1000 (-1) (-1) 0 q16 q17 q19 q21 q23 q25 0 q27)), (q16, (arW G 6 (fun _ => none))), (q17, (oc6 6 5 q18 0)), (q18, (arI G 30 (fun _ => 0))), (q19, (oc6 5 24 q20 0)), (q20, (arI G 120 (fun _ => 0))), (q21, (oc6 10 4 q22 0)), (q22, (arI G 40 (fun _ => 0))), (q23, (oc6 8 5 q24 0)), (q24, (arI G 40 (fun _ => 0))), (q25, (oc6 6 6 q26 0)), (q26, (arI G 36 (fun _ => 0))), (q27, (arJ G 24 (fun _ => 0))), (q28, (oc1 0 1000 (-1) (-1) 0 q29 q30 q32 q34 q36 q38 0 q40)), (q29, (arW G 6 (fun _ => none))), (q30, (oc6 6 5 q31 0)), (q31, (arI G 30 (fun _ => 0))), (q32, (oc6 5 24 q33 0)), (q33, (arI G 120 (fun _ => 0))), (q34, (oc6 10 4 q35 0)), (q35, (arI G 40 (fun _ => 0))), (q36, (oc6 8 5 q37 0)), (q37, (arI G 40 (fun _ => 0))), (q38, (oc6 6 6 q39 0)), (q39, (arI G 36 (fun _ => 0))), (q40, (arJ G 24 (fun _ => 0))), (q41, (arZ G 2 (fun _ => 0))), (q42, (oc5 q1 q43 q46 0 0 0 0 0 0 0 0 0 0)), (q43, (oc2 q44 q45)), (q44, (arI G 8 (fun _ => 0))), (q45, (arJ G 50 (fun _ => 0))), (q46, (arI G 200 (fun _ => 0))), (q47, (oc10 q1 q42 q48)), (q48, (arJ G 24 (fun _ => 0))), (q49, (oc7 q1 q42 q50 q51 0 q52 q53 q54 q55 q56)), (q50, (arJ G 24 (fun _ => 0))), (q51, (arI G 1536 (fun _ => 0))), (q52, (arJ G 2048 (fun _ => 0))), (q53, (arJ G 2048 (fun _ => 0))), (q54, (arI G 1536 (fun _ => 0))), (q55, (arI G 64 (fun _ => 0))), (q56, (arI G 64 (fun _ => 0))), (q57, (oc0 q1 q42 0 0 0))] hP hD ?_
  clear hP hD
  intro hP hD
  refine va_putF (D := G.1) (ci := 11) (v := .ref q57) (ty := .object "LateGlass$Hanger") (C := RX11) (T := TX11) (N := 17) hx hb hts inG_X11 tyX11 tyX11_ok nmX11 hown hK hP hD hS 0 rfl rfl 6 (by decide +kernel) (hts _ fl_X11_52) (fun _ h9 => h9) rfl hin rfl (by decide +kernel) rfl rfl (Nat.le_of_ble_eq_true rfl) dX11_init_119 ?_
  clear hP hD hS
  intro H locs hP hD hS
  refine g5_rs [(a0, .inr (11, [.ref q1, .ref q14, .ref q41, .ref q42, .ref q47, .ref q49, .ref q57, .null, .null, .null, .int 0, .int 0, .int 0, .null, .int 0, .null, .int 0])), (q1, (oc1 0 1000 (-1) (-1) 0 q2 q3 q5 q7 q9 q11 0 q13)), (q2, (arW G 6 (fun _ => none))), (q3, (oc6 6 5 q4 0)), (q4, (arI G 30 (fun _ => 0))), (q5, (oc6 5 24 q6 0)), (q6, (arI G 120 (fun _ => 0))), (q7, (oc6 10 4 q8 0)), (q8, (arI G 40 (fun _ => 0))), (q9, (oc6 8 5 q10 0)), (q10, (arI G 40 (fun _ => 0))), (q11, (oc6 6 6 q12 0)), (q12, (arI G 36 (fun _ => 0))), (q13, (arJ G 24 (fun _ => 0))), (q14, (arH G 2 (va_up (va_up (fun _ => none) 0 (some q15)) 1 (some q28)))), (q15, (oc1 0 1000 (-1) (-1) 0 q16 q17 q19 q21 q23 q25 0 q27)), (q16, (arW G 6 (fun _ => none))), (q17, (oc6 6 5 q18 0)), (q18, (arI G 30 (fun _ => 0))), (q19, (oc6 5 24 q20 0)), (q20, (arI G 120 (fun _ => 0))), (q21, (oc6 10 4 q22 0)), (q22, (arI G 40 (fun _ => 0))), (q23, (oc6 8 5 q24 0)), (q24, (arI G 40 (fun _ => 0))), (q25, (oc6 6 6 q26 0)), (q26, (arI G 36 (fun _ => 0))), (q27, (arJ G 24 (fun _ => 0))), (q28, (oc1 0 1000 (-1) (-1) 0 q29 q30 q32 q34 q36 q38 0 q40)), (q29, (arW G 6 (fun _ => none))), (q30, (oc6 6 5 q31 0)), (q31, (arI G 30 (fun _ => 0))), (q32, (oc6 5 24 q33 0)), (q33, (arI G 120 (fun _ => 0))), (q34, (oc6 10 4 q35 0)), (q35, (arI G 40 (fun _ => 0))), (q36, (oc6 8 5 q37 0)), (q37, (arI G 40 (fun _ => 0))), (q38, (oc6 6 6 q39 0)), (q39, (arI G 36 (fun _ => 0))), (q40, (arJ G 24 (fun _ => 0))), (q41, (arZ G 2 (fun _ => 0))), (q42, (oc5 q1 q43 q46 0 0 0 0 0 0 0 0 0 0)), (q43, (oc2 q44 q45)), (q44, (arI G 8 (fun _ => 0))), (q45, (arJ G 50 (fun _ => 0))), (q46, (arI G 200 (fun _ => 0))), (q47, (oc10 q1 q42 q48)), (q48, (arJ G 24 (fun _ => 0))), (q49, (oc7 q1 q42 q50 q51 0 q52 q53 q54 q55 q56)), (q50, (arJ G 24 (fun _ => 0))), (q51, (arI G 1536 (fun _ => 0))), (q52, (arJ G 2048 (fun _ => 0))), (q53, (arJ G 2048 (fun _ => 0))), (q54, (arI G 1536 (fun _ => 0))), (q55, (arI G 64 (fun _ => 0))), (q56, (arI G 64 (fun _ => 0))), (q57, (oc0 q1 q42 0 0 0))] hP hD ?_
  clear hP hD
  intro hP hD
  refine lv_aload_n hx hb dX11_init_122 rfl (lv_at hl 0 rfl) ?_
  refine va_new (D := G.1) (ci := 9) (fs := [.null, .null, .null, .null]) (C := RX9) (T := TX9) (N := 4) hx hb hts inG_X9 tyX9 tyX9_ok hown (hts _ cl_X11_56) (hts _ isn_X9) (hts _ ini_X9) hK hP hD hS hA rfl (fun j hj => by rcases (show j = 0 ∨ j = 1 ∨ j = 2 ∨ j = 3 by omega) with rfl | rfl | rfl | rfl <;> rfl) (Nat.le_of_ble_eq_true rfl) (Nat.le_of_ble_eq_true rfl) dX11_init_123 (fun q58 H hP hD hS => ?_)
  refine g5_rs [(a0, .inr (11, [.ref q1, .ref q14, .ref q41, .ref q42, .ref q47, .ref q49, .ref q57, .null, .null, .null, .int 0, .int 0, .int 0, .null, .int 0, .null, .int 0])), (q1, (oc1 0 1000 (-1) (-1) 0 q2 q3 q5 q7 q9 q11 0 q13)), (q2, (arW G 6 (fun _ => none))), (q3, (oc6 6 5 q4 0)), (q4, (arI G 30 (fun _ => 0))), (q5, (oc6 5 24 q6 0)), (q6, (arI G 120 (fun _ => 0))), (q7, (oc6 10 4 q8 0)), (q8, (arI G 40 (fun _ => 0))), (q9, (oc6 8 5 q10 0)), (q10, (arI G 40 (fun _ => 0))), (q11, (oc6 6 6 q12 0)), (q12, (arI G 36 (fun _ => 0))), (q13, (arJ G 24 (fun _ => 0))), (q14, (arH G 2 (va_up (va_up (fun _ => none) 0 (some q15)) 1 (some q28)))), (q15, (oc1 0 1000 (-1) (-1) 0 q16 q17 q19 q21 q23 q25 0 q27)), (q16, (arW G 6 (fun _ => none))), (q17, (oc6 6 5 q18 0)), (q18, (arI G 30 (fun _ => 0))), (q19, (oc6 5 24 q20 0)), (q20, (arI G 120 (fun _ => 0))), (q21, (oc6 10 4 q22 0)), (q22, (arI G 40 (fun _ => 0))), (q23, (oc6 8 5 q24 0)), (q24, (arI G 40 (fun _ => 0))), (q25, (oc6 6 6 q26 0)), (q26, (arI G 36 (fun _ => 0))), (q27, (arJ G 24 (fun _ => 0))), (q28, (oc1 0 1000 (-1) (-1) 0 q29 q30 q32 q34 q36 q38 0 q40)), (q29, (arW G 6 (fun _ => none))), (q30, (oc6 6 5 q31 0)), (q31, (arI G 30 (fun _ => 0))), (q32, (oc6 5 24 q33 0)), (q33, (arI G 120 (fun _ => 0))), (q34, (oc6 10 4 q35 0)), (q35, (arI G 40 (fun _ => 0))), (q36, (oc6 8 5 q37 0)), (q37, (arI G 40 (fun _ => 0))), (q38, (oc6 6 6 q39 0)), (q39, (arI G 36 (fun _ => 0))), (q40, (arJ G 24 (fun _ => 0))), (q41, (arZ G 2 (fun _ => 0))), (q42, (oc5 q1 q43 q46 0 0 0 0 0 0 0 0 0 0)), (q43, (oc2 q44 q45)), (q44, (arI G 8 (fun _ => 0))), (q45, (arJ G 50 (fun _ => 0))), (q46, (arI G 200 (fun _ => 0))), (q47, (oc10 q1 q42 q48)), (q48, (arJ G 24 (fun _ => 0))), (q49, (oc7 q1 q42 q50 q51 0 q52 q53 q54 q55 q56)), (q50, (arJ G 24 (fun _ => 0))), (q51, (arI G 1536 (fun _ => 0))), (q52, (arJ G 2048 (fun _ => 0))), (q53, (arJ G 2048 (fun _ => 0))), (q54, (arI G 1536 (fun _ => 0))), (q55, (arI G 64 (fun _ => 0))), (q56, (arI G 64 (fun _ => 0))), (q57, (oc0 q1 q42 0 0 0)), (q58, .inr (9, [.null, .null, .null, .null]))] hP hD ?_
  clear hP hD
  intro hP hD
  refine W.widen (k := 58) (n := 8630) (Nat.le_of_ble_eq_true rfl) (Nat.le_of_ble_eq_true rfl) ?_
  refine lv_dup hx hb dX11_init_126 rfl ?_
  refine W.eq (g2 := F0 m 127 ls [.ref q58, .ref q58, .ref a0]) rfl ?_
  refine lv_aload_n hx hb dX11_init_127 rfl (lv_at hl 0 rfl) ?_
  refine va_get (D := G.1) (ci := 11) (v := .ref q1) (C := RX11) (T := TX11) (N := 17) hx hb hts inG_X11 hown hK hP 0 rfl rfl 0 (by decide +kernel) (hts _ fl_X11_12) (fun _ h9 => h9) rfl dX11_init_128 ?_
  refine lv_aload_n hx hb dX11_init_131 rfl (lv_at hl 0 rfl) ?_
  refine va_get (D := G.1) (ci := 11) (v := .ref q42) (C := RX11) (T := TX11) (N := 17) hx hb hts inG_X11 hown hK hP 0 rfl rfl 3 (by decide +kernel) (hts _ fl_X11_29) (fun _ h9 => h9) rfl dX11_init_132 ?_
  obtain ⟨hPc, hDc, hFc⟩ := g5_sub3 (wc := [(q58, .inr (9, [.null, .null, .null, .null]))]) hP hD hS hA [58] (by decide +kernel) rfl
  refine va_callv (va_runI (As := [.ref q1, .ref q42]) (rest := [.ref q58, .ref a0]) ⟨hx, hb, hml, hown, hts⟩ (kX9_init l G q58 q1 q42 H.size) (cwI 2 hts gW_X9_init rfl rfl rfl (hts _ ini_X9) (hts _ ml_X11_58) (hts _ im_X9_init) rfl hs_X9_init ⟨Nat.le_of_ble_eq_true rfl, Nat.le_of_ble_eq_true rfl⟩) (g5_preS hPc hK hDc hN hT hS hFc) rfl rfl hl.1 rfl (lv_room (Nat.le_of_ble_eq_true rfl)) dX11_init_135 ⟨Nat.le_of_ble_eq_true rfl, Nat.le_of_ble_eq_true rfl⟩) hS (fun q _ h => hFc q h) hFc (fun u t H locs ht hvm hw hB hz1 hk1 hS => ?_)
  obtain ⟨hP1, hD1⟩ := hB
  have hP1 := g5_ht ht hP1
  refine W.widen (k := 60) (n := 10190) (Nat.le_of_ble_eq_true rfl) (Nat.le_of_ble_eq_true rfl) ?_
  obtain ⟨q59, q60, rfl⟩ := hw
  have hJ9 := va_join (wr := [(a0, .inr (11, [.ref q1, .ref q14, .ref q41, .ref q42, .ref q47, .ref q49, .ref q57, .null, .null, .null, .int 0, .int 0, .int 0, .null, .int 0, .null, .int 0])), (q1, (oc1 0 1000 (-1) (-1) 0 q2 q3 q5 q7 q9 q11 0 q13)), (q2, (arW G 6 (fun _ => none))), (q3, (oc6 6 5 q4 0)), (q4, (arI G 30 (fun _ => 0))), (q5, (oc6 5 24 q6 0)), (q6, (arI G 120 (fun _ => 0))), (q7, (oc6 10 4 q8 0)), (q8, (arI G 40 (fun _ => 0))), (q9, (oc6 8 5 q10 0)), (q10, (arI G 40 (fun _ => 0))), (q11, (oc6 6 6 q12 0)), (q12, (arI G 36 (fun _ => 0))), (q13, (arJ G 24 (fun _ => 0))), (q14, (arH G 2 (va_up (va_up (fun _ => none) 0 (some q15)) 1 (some q28)))), (q15, (oc1 0 1000 (-1) (-1) 0 q16 q17 q19 q21 q23 q25 0 q27)), (q16, (arW G 6 (fun _ => none))), (q17, (oc6 6 5 q18 0)), (q18, (arI G 30 (fun _ => 0))), (q19, (oc6 5 24 q20 0)), (q20, (arI G 120 (fun _ => 0))), (q21, (oc6 10 4 q22 0)), (q22, (arI G 40 (fun _ => 0))), (q23, (oc6 8 5 q24 0)), (q24, (arI G 40 (fun _ => 0))), (q25, (oc6 6 6 q26 0)), (q26, (arI G 36 (fun _ => 0))), (q27, (arJ G 24 (fun _ => 0))), (q28, (oc1 0 1000 (-1) (-1) 0 q29 q30 q32 q34 q36 q38 0 q40)), (q29, (arW G 6 (fun _ => none))), (q30, (oc6 6 5 q31 0)), (q31, (arI G 30 (fun _ => 0))), (q32, (oc6 5 24 q33 0)), (q33, (arI G 120 (fun _ => 0))), (q34, (oc6 10 4 q35 0)), (q35, (arI G 40 (fun _ => 0))), (q36, (oc6 8 5 q37 0)), (q37, (arI G 40 (fun _ => 0))), (q38, (oc6 6 6 q39 0)), (q39, (arI G 36 (fun _ => 0))), (q40, (arJ G 24 (fun _ => 0))), (q41, (arZ G 2 (fun _ => 0))), (q42, (oc5 q1 q43 q46 0 0 0 0 0 0 0 0 0 0)), (q43, (oc2 q44 q45)), (q44, (arI G 8 (fun _ => 0))), (q45, (arJ G 50 (fun _ => 0))), (q46, (arI G 200 (fun _ => 0))), (q47, (oc10 q1 q42 q48)), (q48, (arJ G 24 (fun _ => 0))), (q49, (oc7 q1 q42 q50 q51 0 q52 q53 q54 q55 q56)), (q50, (arJ G 24 (fun _ => 0))), (q51, (arI G 1536 (fun _ => 0))), (q52, (arJ G 2048 (fun _ => 0))), (q53, (arJ G 2048 (fun _ => 0))), (q54, (arI G 1536 (fun _ => 0))), (q55, (arI G 64 (fun _ => 0))), (q56, (arI G 64 (fun _ => 0))), (q57, (oc0 q1 q42 0 0 0))]) hP hD [58] [0, 1, 2, 3, 4, 5, 6, 7, 8, 9, 10, 11, 12, 13, 14, 15, 16, 17, 18, 19, 20, 21, 22, 23, 24, 25, 26, 27, 28, 29, 30, 31, 32, 33, 34, 35, 36, 37, 38, 39, 40, 41, 42, 43, 44, 45, 46, 47, 48, 49, 50, 51, 52, 53, 54, 55, 56, 57] rfl rfl (by decide +kernel) (by decide +kernel) hk1 hFc hP1 hD1
  clear hP hD hPc hDc hFc ht hvm hz1 hk1 hP1 hD1
  obtain ⟨hP, hD⟩ := hJ9
  refine g5_rs [(a0, .inr (11, [.ref q1, .ref q14, .ref q41, .ref q42, .ref q47, .ref q49, .ref q57, .null, .null, .null, .int 0, .int 0, .int 0, .null, .int 0, .null, .int 0])), (q1, (oc1 0 1000 (-1) (-1) 0 q2 q3 q5 q7 q9 q11 0 q13)), (q2, (arW G 6 (fun _ => none))), (q3, (oc6 6 5 q4 0)), (q4, (arI G 30 (fun _ => 0))), (q5, (oc6 5 24 q6 0)), (q6, (arI G 120 (fun _ => 0))), (q7, (oc6 10 4 q8 0)), (q8, (arI G 40 (fun _ => 0))), (q9, (oc6 8 5 q10 0)), (q10, (arI G 40 (fun _ => 0))), (q11, (oc6 6 6 q12 0)), (q12, (arI G 36 (fun _ => 0))), (q13, (arJ G 24 (fun _ => 0))), (q14, (arH G 2 (va_up (va_up (fun _ => none) 0 (some q15)) 1 (some q28)))), (q15, (oc1 0 1000 (-1) (-1) 0 q16 q17 q19 q21 q23 q25 0 q27)), (q16, (arW G 6 (fun _ => none))), (q17, (oc6 6 5 q18 0)), (q18, (arI G 30 (fun _ => 0))), (q19, (oc6 5 24 q20 0)), (q20, (arI G 120 (fun _ => 0))), (q21, (oc6 10 4 q22 0)), (q22, (arI G 40 (fun _ => 0))), (q23, (oc6 8 5 q24 0)), (q24, (arI G 40 (fun _ => 0))), (q25, (oc6 6 6 q26 0)), (q26, (arI G 36 (fun _ => 0))), (q27, (arJ G 24 (fun _ => 0))), (q28, (oc1 0 1000 (-1) (-1) 0 q29 q30 q32 q34 q36 q38 0 q40)), (q29, (arW G 6 (fun _ => none))), (q30, (oc6 6 5 q31 0)), (q31, (arI G 30 (fun _ => 0))), (q32, (oc6 5 24 q33 0)), (q33, (arI G 120 (fun _ => 0))), (q34, (oc6 10 4 q35 0)), (q35, (arI G 40 (fun _ => 0))), (q36, (oc6 8 5 q37 0)), (q37, (arI G 40 (fun _ => 0))), (q38, (oc6 6 6 q39 0)), (q39, (arI G 36 (fun _ => 0))), (q40, (arJ G 24 (fun _ => 0))), (q41, (arZ G 2 (fun _ => 0))), (q42, (oc5 q1 q43 q46 0 0 0 0 0 0 0 0 0 0)), (q43, (oc2 q44 q45)), (q44, (arI G 8 (fun _ => 0))), (q45, (arJ G 50 (fun _ => 0))), (q46, (arI G 200 (fun _ => 0))), (q47, (oc10 q1 q42 q48)), (q48, (arJ G 24 (fun _ => 0))), (q49, (oc7 q1 q42 q50 q51 0 q52 q53 q54 q55 q56)), (q50, (arJ G 24 (fun _ => 0))), (q51, (arI G 1536 (fun _ => 0))), (q52, (arJ G 2048 (fun _ => 0))), (q53, (arJ G 2048 (fun _ => 0))), (q54, (arI G 1536 (fun _ => 0))), (q55, (arI G 64 (fun _ => 0))), (q56, (arI G 64 (fun _ => 0))), (q57, (oc0 q1 q42 0 0 0)), (q58, (oc9 q1 q42 q59 q60)), (q59, (arJ G 24 (fun _ => 0))), (q60, (arI G 1536 (fun _ => 0)))] hP hD ?_
  clear hP hD
  intro hP hD
  refine W.eq (g2 := F0 m 138 ls [.ref q58, .ref a0]) rfl ?_
  refine va_putF (D := G.1) (ci := 11) (v := .ref q58) (ty := .object "LateGlass$Walker") (C := RX11) (T := TX11) (N := 17) hx hb hts inG_X11 tyX11 tyX11_ok nmX11 hown hK hP hD hS 0 rfl rfl 7 (by decide +kernel) (hts _ fl_X11_59) (fun _ h9 => h9) rfl hin rfl (by decide +kernel) rfl rfl (Nat.le_of_ble_eq_true rfl) dX11_init_138 ?_
  clear hP hD hS
  intro H locs hP hD hS
  refine g5_rs [(a0, .inr (11, [.ref q1, .ref q14, .ref q41, .ref q42, .ref q47, .ref q49, .ref q57, .ref q58, .null, .null, .int 0, .int 0, .int 0, .null, .int 0, .null, .int 0])), (q1, (oc1 0 1000 (-1) (-1) 0 q2 q3 q5 q7 q9 q11 0 q13)), (q2, (arW G 6 (fun _ => none))), (q3, (oc6 6 5 q4 0)), (q4, (arI G 30 (fun _ => 0))), (q5, (oc6 5 24 q6 0)), (q6, (arI G 120 (fun _ => 0))), (q7, (oc6 10 4 q8 0)), (q8, (arI G 40 (fun _ => 0))), (q9, (oc6 8 5 q10 0)), (q10, (arI G 40 (fun _ => 0))), (q11, (oc6 6 6 q12 0)), (q12, (arI G 36 (fun _ => 0))), (q13, (arJ G 24 (fun _ => 0))), (q14, (arH G 2 (va_up (va_up (fun _ => none) 0 (some q15)) 1 (some q28)))), (q15, (oc1 0 1000 (-1) (-1) 0 q16 q17 q19 q21 q23 q25 0 q27)), (q16, (arW G 6 (fun _ => none))), (q17, (oc6 6 5 q18 0)), (q18, (arI G 30 (fun _ => 0))), (q19, (oc6 5 24 q20 0)), (q20, (arI G 120 (fun _ => 0))), (q21, (oc6 10 4 q22 0)), (q22, (arI G 40 (fun _ => 0))), (q23, (oc6 8 5 q24 0)), (q24, (arI G 40 (fun _ => 0))), (q25, (oc6 6 6 q26 0)), (q26, (arI G 36 (fun _ => 0))), (q27, (arJ G 24 (fun _ => 0))), (q28, (oc1 0 1000 (-1) (-1) 0 q29 q30 q32 q34 q36 q38 0 q40)), (q29, (arW G 6 (fun _ => none))), (q30, (oc6 6 5 q31 0)), (q31, (arI G 30 (fun _ => 0))), (q32, (oc6 5 24 q33 0)), (q33, (arI G 120 (fun _ => 0))), (q34, (oc6 10 4 q35 0)), (q35, (arI G 40 (fun _ => 0))), (q36, (oc6 8 5 q37 0)), (q37, (arI G 40 (fun _ => 0))), (q38, (oc6 6 6 q39 0)), (q39, (arI G 36 (fun _ => 0))), (q40, (arJ G 24 (fun _ => 0))), (q41, (arZ G 2 (fun _ => 0))), (q42, (oc5 q1 q43 q46 0 0 0 0 0 0 0 0 0 0)), (q43, (oc2 q44 q45)), (q44, (arI G 8 (fun _ => 0))), (q45, (arJ G 50 (fun _ => 0))), (q46, (arI G 200 (fun _ => 0))), (q47, (oc10 q1 q42 q48)), (q48, (arJ G 24 (fun _ => 0))), (q49, (oc7 q1 q42 q50 q51 0 q52 q53 q54 q55 q56)), (q50, (arJ G 24 (fun _ => 0))), (q51, (arI G 1536 (fun _ => 0))), (q52, (arJ G 2048 (fun _ => 0))), (q53, (arJ G 2048 (fun _ => 0))), (q54, (arI G 1536 (fun _ => 0))), (q55, (arI G 64 (fun _ => 0))), (q56, (arI G 64 (fun _ => 0))), (q57, (oc0 q1 q42 0 0 0)), (q58, (oc9 q1 q42 q59 q60)), (q59, (arJ G 24 (fun _ => 0))), (q60, (arI G 1536 (fun _ => 0)))] hP hD ?_
  clear hP hD
  intro hP hD
  refine lv_aload_n hx hb dX11_init_141 rfl (lv_at hl 0 rfl) ?_
  refine va_new (D := G.1) (ci := 4) (fs := [.null, .null, .null, .null, .int 0, .int 0, .int 0, .int 0]) (C := RX4) (T := TX4) (N := 8) hx hb hts inG_X4 tyX4 tyX4_ok hown (hts _ cl_X11_63) (hts _ isn_X4) (hts _ ini_X4) hK hP hD hS hA rfl (fun j hj => by rcases (show j = 0 ∨ j = 1 ∨ j = 2 ∨ j = 3 ∨ j = 4 ∨ j = 5 ∨ j = 6 ∨ j = 7 by omega) with rfl | rfl | rfl | rfl | rfl | rfl | rfl | rfl <;> rfl) (Nat.le_of_ble_eq_true rfl) (Nat.le_of_ble_eq_true rfl) dX11_init_142 (fun q61 H hP hD hS => ?_)
  refine g5_rs [(a0, .inr (11, [.ref q1, .ref q14, .ref q41, .ref q42, .ref q47, .ref q49, .ref q57, .ref q58, .null, .null, .int 0, .int 0, .int 0, .null, .int 0, .null, .int 0])), (q1, (oc1 0 1000 (-1) (-1) 0 q2 q3 q5 q7 q9 q11 0 q13)), (q2, (arW G 6 (fun _ => none))), (q3, (oc6 6 5 q4 0)), (q4, (arI G 30 (fun _ => 0))), (q5, (oc6 5 24 q6 0)), (q6, (arI G 120 (fun _ => 0))), (q7, (oc6 10 4 q8 0)), (q8, (arI G 40 (fun _ => 0))), (q9, (oc6 8 5 q10 0)), (q10, (arI G 40 (fun _ => 0))), (q11, (oc6 6 6 q12 0)), (q12, (arI G 36 (fun _ => 0))), (q13, (arJ G 24 (fun _ => 0))), (q14, (arH G 2 (va_up (va_up (fun _ => none) 0 (some q15)) 1 (some q28)))), (q15, (oc1 0 1000 (-1) (-1) 0 q16 q17 q19 q21 q23 q25 0 q27)), (q16, (arW G 6 (fun _ => none))), (q17, (oc6 6 5 q18 0)), (q18, (arI G 30 (fun _ => 0))), (q19, (oc6 5 24 q20 0)), (q20, (arI G 120 (fun _ => 0))), (q21, (oc6 10 4 q22 0)), (q22, (arI G 40 (fun _ => 0))), (q23, (oc6 8 5 q24 0)), (q24, (arI G 40 (fun _ => 0))), (q25, (oc6 6 6 q26 0)), (q26, (arI G 36 (fun _ => 0))), (q27, (arJ G 24 (fun _ => 0))), (q28, (oc1 0 1000 (-1) (-1) 0 q29 q30 q32 q34 q36 q38 0 q40)), (q29, (arW G 6 (fun _ => none))), (q30, (oc6 6 5 q31 0)), (q31, (arI G 30 (fun _ => 0))), (q32, (oc6 5 24 q33 0)), (q33, (arI G 120 (fun _ => 0))), (q34, (oc6 10 4 q35 0)), (q35, (arI G 40 (fun _ => 0))), (q36, (oc6 8 5 q37 0)), (q37, (arI G 40 (fun _ => 0))), (q38, (oc6 6 6 q39 0)), (q39, (arI G 36 (fun _ => 0))), (q40, (arJ G 24 (fun _ => 0))), (q41, (arZ G 2 (fun _ => 0))), (q42, (oc5 q1 q43 q46 0 0 0 0 0 0 0 0 0 0)), (q43, (oc2 q44 q45)), (q44, (arI G 8 (fun _ => 0))), (q45, (arJ G 50 (fun _ => 0))), (q46, (arI G 200 (fun _ => 0))), (q47, (oc10 q1 q42 q48)), (q48, (arJ G 24 (fun _ => 0))), (q49, (oc7 q1 q42 q50 q51 0 q52 q53 q54 q55 q56)), (q50, (arJ G 24 (fun _ => 0))), (q51, (arI G 1536 (fun _ => 0))), (q52, (arJ G 2048 (fun _ => 0))), (q53, (arJ G 2048 (fun _ => 0))), (q54, (arI G 1536 (fun _ => 0))), (q55, (arI G 64 (fun _ => 0))), (q56, (arI G 64 (fun _ => 0))), (q57, (oc0 q1 q42 0 0 0)), (q58, (oc9 q1 q42 q59 q60)), (q59, (arJ G 24 (fun _ => 0))), (q60, (arI G 1536 (fun _ => 0))), (q61, .inr (4, [.null, .null, .null, .null, .int 0, .int 0, .int 0, .int 0]))] hP hD ?_
  clear hP hD
  intro hP hD
  refine W.widen (k := 61) (n := 10198) (Nat.le_of_ble_eq_true rfl) (Nat.le_of_ble_eq_true rfl) ?_
  refine lv_dup hx hb dX11_init_145 rfl ?_
  obtain ⟨hPc, hDc, hFc⟩ := g5_sub3 (wc := [(q61, .inr (4, [.null, .null, .null, .null, .int 0, .int 0, .int 0, .int 0]))]) hP hD hS hA [61] (by decide +kernel) rfl
  refine va_callv (va_runIN (As := []) (rest := [.ref q61, .ref a0]) ⟨hx, hb, hml, hown, hts⟩ (kX4_init l G q61 H.size) ⟨va_cnB 0 hts gW_X4_init rfl rfl rfl (hN.1 _ g5_nw_X11_65) (hts _ ini_X4) hs_X4_init ⟨Nat.le_of_ble_eq_true rfl, Nat.le_of_ble_eq_true rfl⟩, rfl, hts _ im_X4_init⟩ (g5_preS hPc hK hDc hN hT hS hFc) rfl rfl hl.1 rfl (lv_room (Nat.le_of_ble_eq_true rfl)) dX11_init_146 ⟨Nat.le_of_ble_eq_true rfl, Nat.le_of_ble_eq_true rfl⟩) hS (fun q _ h => hFc q h) hFc (fun u t H locs ht hvm hw hB hz1 hk1 hS => ?_)
  obtain ⟨hP1, hD1⟩ := hB
  have hP1 := g5_ht ht hP1
  refine W.widen (k := 68) (n := 11829) (Nat.le_of_ble_eq_true rfl) (Nat.le_of_ble_eq_true rfl) ?_
  obtain ⟨q62, q63, q64, q65, q66, q67, q68, rfl⟩ := hw
  have hJ9 := va_join (wr := [(a0, .inr (11, [.ref q1, .ref q14, .ref q41, .ref q42, .ref q47, .ref q49, .ref q57, .ref q58, .null, .null, .int 0, .int 0, .int 0, .null, .int 0, .null, .int 0])), (q1, (oc1 0 1000 (-1) (-1) 0 q2 q3 q5 q7 q9 q11 0 q13)), (q2, (arW G 6 (fun _ => none))), (q3, (oc6 6 5 q4 0)), (q4, (arI G 30 (fun _ => 0))), (q5, (oc6 5 24 q6 0)), (q6, (arI G 120 (fun _ => 0))), (q7, (oc6 10 4 q8 0)), (q8, (arI G 40 (fun _ => 0))), (q9, (oc6 8 5 q10 0)), (q10, (arI G 40 (fun _ => 0))), (q11, (oc6 6 6 q12 0)), (q12, (arI G 36 (fun _ => 0))), (q13, (arJ G 24 (fun _ => 0))), (q14, (arH G 2 (va_up (va_up (fun _ => none) 0 (some q15)) 1 (some q28)))), (q15, (oc1 0 1000 (-1) (-1) 0 q16 q17 q19 q21 q23 q25 0 q27)), (q16, (arW G 6 (fun _ => none))), (q17, (oc6 6 5 q18 0)), (q18, (arI G 30 (fun _ => 0))), (q19, (oc6 5 24 q20 0)), (q20, (arI G 120 (fun _ => 0))), (q21, (oc6 10 4 q22 0)), (q22, (arI G 40 (fun _ => 0))), (q23, (oc6 8 5 q24 0)), (q24, (arI G 40 (fun _ => 0))), (q25, (oc6 6 6 q26 0)), (q26, (arI G 36 (fun _ => 0))), (q27, (arJ G 24 (fun _ => 0))), (q28, (oc1 0 1000 (-1) (-1) 0 q29 q30 q32 q34 q36 q38 0 q40)), (q29, (arW G 6 (fun _ => none))), (q30, (oc6 6 5 q31 0)), (q31, (arI G 30 (fun _ => 0))), (q32, (oc6 5 24 q33 0)), (q33, (arI G 120 (fun _ => 0))), (q34, (oc6 10 4 q35 0)), (q35, (arI G 40 (fun _ => 0))), (q36, (oc6 8 5 q37 0)), (q37, (arI G 40 (fun _ => 0))), (q38, (oc6 6 6 q39 0)), (q39, (arI G 36 (fun _ => 0))), (q40, (arJ G 24 (fun _ => 0))), (q41, (arZ G 2 (fun _ => 0))), (q42, (oc5 q1 q43 q46 0 0 0 0 0 0 0 0 0 0)), (q43, (oc2 q44 q45)), (q44, (arI G 8 (fun _ => 0))), (q45, (arJ G 50 (fun _ => 0))), (q46, (arI G 200 (fun _ => 0))), (q47, (oc10 q1 q42 q48)), (q48, (arJ G 24 (fun _ => 0))), (q49, (oc7 q1 q42 q50 q51 0 q52 q53 q54 q55 q56)), (q50, (arJ G 24 (fun _ => 0))), (q51, (arI G 1536 (fun _ => 0))), (q52, (arJ G 2048 (fun _ => 0))), (q53, (arJ G 2048 (fun _ => 0))), (q54, (arI G 1536 (fun _ => 0))), (q55, (arI G 64 (fun _ => 0))), (q56, (arI G 64 (fun _ => 0))), (q57, (oc0 q1 q42 0 0 0)), (q58, (oc9 q1 q42 q59 q60)), (q59, (arJ G 24 (fun _ => 0))), (q60, (arI G 1536 (fun _ => 0)))]) hP hD [61] [0, 1, 2, 3, 4, 5, 6, 7, 8, 9, 10, 11, 12, 13, 14, 15, 16, 17, 18, 19, 20, 21, 22, 23, 24, 25, 26, 27, 28, 29, 30, 31, 32, 33, 34, 35, 36, 37, 38, 39, 40, 41, 42, 43, 44, 45, 46, 47, 48, 49, 50, 51, 52, 53, 54, 55, 56, 57, 58, 59, 60] rfl rfl (by decide +kernel) (by decide +kernel) hk1 hFc hP1 hD1
  clear hP hD hPc hDc hFc ht hvm hz1 hk1 hP1 hD1
  obtain ⟨hP, hD⟩ := hJ9
  refine g5_rs [(a0, .inr (11, [.ref q1, .ref q14, .ref q41, .ref q42, .ref q47, .ref q49, .ref q57, .ref q58, .null, .null, .int 0, .int 0, .int 0, .null, .int 0, .null, .int 0])), (q1, (oc1 0 1000 (-1) (-1) 0 q2 q3 q5 q7 q9 q11 0 q13)), (q2, (arW G 6 (fun _ => none))), (q3, (oc6 6 5 q4 0)), (q4, (arI G 30 (fun _ => 0))), (q5, (oc6 5 24 q6 0)), (q6, (arI G 120 (fun _ => 0))), (q7, (oc6 10 4 q8 0)), (q8, (arI G 40 (fun _ => 0))), (q9, (oc6 8 5 q10 0)), (q10, (arI G 40 (fun _ => 0))), (q11, (oc6 6 6 q12 0)), (q12, (arI G 36 (fun _ => 0))), (q13, (arJ G 24 (fun _ => 0))), (q14, (arH G 2 (va_up (va_up (fun _ => none) 0 (some q15)) 1 (some q28)))), (q15, (oc1 0 1000 (-1) (-1) 0 q16 q17 q19 q21 q23 q25 0 q27)), (q16, (arW G 6 (fun _ => none))), (q17, (oc6 6 5 q18 0)), (q18, (arI G 30 (fun _ => 0))), (q19, (oc6 5 24 q20 0)), (q20, (arI G 120 (fun _ => 0))), (q21, (oc6 10 4 q22 0)), (q22, (arI G 40 (fun _ => 0))), (q23, (oc6 8 5 q24 0)), (q24, (arI G 40 (fun _ => 0))), (q25, (oc6 6 6 q26 0)), (q26, (arI G 36 (fun _ => 0))), (q27, (arJ G 24 (fun _ => 0))), (q28, (oc1 0 1000 (-1) (-1) 0 q29 q30 q32 q34 q36 q38 0 q40)), (q29, (arW G 6 (fun _ => none))), (q30, (oc6 6 5 q31 0)), (q31, (arI G 30 (fun _ => 0))), (q32, (oc6 5 24 q33 0)), (q33, (arI G 120 (fun _ => 0))), (q34, (oc6 10 4 q35 0)), (q35, (arI G 40 (fun _ => 0))), (q36, (oc6 8 5 q37 0)), (q37, (arI G 40 (fun _ => 0))), (q38, (oc6 6 6 q39 0)), (q39, (arI G 36 (fun _ => 0))), (q40, (arJ G 24 (fun _ => 0))), (q41, (arZ G 2 (fun _ => 0))), (q42, (oc5 q1 q43 q46 0 0 0 0 0 0 0 0 0 0)), (q43, (oc2 q44 q45)), (q44, (arI G 8 (fun _ => 0))), (q45, (arJ G 50 (fun _ => 0))), (q46, (arI G 200 (fun _ => 0))), (q47, (oc10 q1 q42 q48)), (q48, (arJ G 24 (fun _ => 0))), (q49, (oc7 q1 q42 q50 q51 0 q52 q53 q54 q55 q56)), (q50, (arJ G 24 (fun _ => 0))), (q51, (arI G 1536 (fun _ => 0))), (q52, (arJ G 2048 (fun _ => 0))), (q53, (arJ G 2048 (fun _ => 0))), (q54, (arI G 1536 (fun _ => 0))), (q55, (arI G 64 (fun _ => 0))), (q56, (arI G 64 (fun _ => 0))), (q57, (oc0 q1 q42 0 0 0)), (q58, (oc9 q1 q42 q59 q60)), (q59, (arJ G 24 (fun _ => 0))), (q60, (arI G 1536 (fun _ => 0))), (q61, (oc4 q62 q66 q67 q68 0 0 0 (-1))), (q62, (oc8 q63 q64 q65)), (q63, (arI G 401 (fun _ => 0))), (q64, (arI G 401 (fun _ => 0))), (q65, (arI G 401 (fun _ => 0))), (q66, (arI G 12 (fun _ => 0))), (q67, (arI G 13 (fun _ => 0))), (q68, (arI G 400 (fun _ => 0)))] hP hD ?_
  clear hP hD
  intro hP hD
  refine W.eq (g2 := F0 m 149 ls [.ref q61, .ref a0]) rfl ?_
  refine va_putF (D := G.1) (ci := 11) (v := .ref q61) (ty := .object "LateGlass$LawReader") (C := RX11) (T := TX11) (N := 17) hx hb hts inG_X11 tyX11 tyX11_ok nmX11 hown hK hP hD hS 0 rfl rfl 8 (by decide +kernel) (hts _ fl_X11_66) (fun _ h9 => h9) rfl hin rfl (by decide +kernel) rfl rfl (Nat.le_of_ble_eq_true rfl) dX11_init_149 ?_
  clear hP hD hS
  intro H locs hP hD hS
  refine g5_rs [(a0, .inr (11, [.ref q1, .ref q14, .ref q41, .ref q42, .ref q47, .ref q49, .ref q57, .ref q58, .ref q61, .null, .int 0, .int 0, .int 0, .null, .int 0, .null, .int 0])), (q1, (oc1 0 1000 (-1) (-1) 0 q2 q3 q5 q7 q9 q11 0 q13)), (q2, (arW G 6 (fun _ => none))), (q3, (oc6 6 5 q4 0)), (q4, (arI G 30 (fun _ => 0))), (q5, (oc6 5 24 q6 0)), (q6, (arI G 120 (fun _ => 0))), (q7, (oc6 10 4 q8 0)), (q8, (arI G 40 (fun _ => 0))), (q9, (oc6 8 5 q10 0)), (q10, (arI G 40 (fun _ => 0))), (q11, (oc6 6 6 q12 0)), (q12, (arI G 36 (fun _ => 0))), (q13, (arJ G 24 (fun _ => 0))), (q14, (arH G 2 (va_up (va_up (fun _ => none) 0 (some q15)) 1 (some q28)))), (q15, (oc1 0 1000 (-1) (-1) 0 q16 q17 q19 q21 q23 q25 0 q27)), (q16, (arW G 6 (fun _ => none))), (q17, (oc6 6 5 q18 0)), (q18, (arI G 30 (fun _ => 0))), (q19, (oc6 5 24 q20 0)), (q20, (arI G 120 (fun _ => 0))), (q21, (oc6 10 4 q22 0)), (q22, (arI G 40 (fun _ => 0))), (q23, (oc6 8 5 q24 0)), (q24, (arI G 40 (fun _ => 0))), (q25, (oc6 6 6 q26 0)), (q26, (arI G 36 (fun _ => 0))), (q27, (arJ G 24 (fun _ => 0))), (q28, (oc1 0 1000 (-1) (-1) 0 q29 q30 q32 q34 q36 q38 0 q40)), (q29, (arW G 6 (fun _ => none))), (q30, (oc6 6 5 q31 0)), (q31, (arI G 30 (fun _ => 0))), (q32, (oc6 5 24 q33 0)), (q33, (arI G 120 (fun _ => 0))), (q34, (oc6 10 4 q35 0)), (q35, (arI G 40 (fun _ => 0))), (q36, (oc6 8 5 q37 0)), (q37, (arI G 40 (fun _ => 0))), (q38, (oc6 6 6 q39 0)), (q39, (arI G 36 (fun _ => 0))), (q40, (arJ G 24 (fun _ => 0))), (q41, (arZ G 2 (fun _ => 0))), (q42, (oc5 q1 q43 q46 0 0 0 0 0 0 0 0 0 0)), (q43, (oc2 q44 q45)), (q44, (arI G 8 (fun _ => 0))), (q45, (arJ G 50 (fun _ => 0))), (q46, (arI G 200 (fun _ => 0))), (q47, (oc10 q1 q42 q48)), (q48, (arJ G 24 (fun _ => 0))), (q49, (oc7 q1 q42 q50 q51 0 q52 q53 q54 q55 q56)), (q50, (arJ G 24 (fun _ => 0))), (q51, (arI G 1536 (fun _ => 0))), (q52, (arJ G 2048 (fun _ => 0))), (q53, (arJ G 2048 (fun _ => 0))), (q54, (arI G 1536 (fun _ => 0))), (q55, (arI G 64 (fun _ => 0))), (q56, (arI G 64 (fun _ => 0))), (q57, (oc0 q1 q42 0 0 0)), (q58, (oc9 q1 q42 q59 q60)), (q59, (arJ G 24 (fun _ => 0))), (q60, (arI G 1536 (fun _ => 0))), (q61, (oc4 q62 q66 q67 q68 0 0 0 (-1))), (q62, (oc8 q63 q64 q65)), (q63, (arI G 401 (fun _ => 0))), (q64, (arI G 401 (fun _ => 0))), (q65, (arI G 401 (fun _ => 0))), (q66, (arI G 12 (fun _ => 0))), (q67, (arI G 13 (fun _ => 0))), (q68, (arI G 400 (fun _ => 0)))] hP hD ?_
  clear hP hD
  intro hP hD
  refine lv_aload_n hx hb dX11_init_152 rfl (lv_at hl 0 rfl) ?_
  refine lv_sipush (v := 400) hx hb dX11_init_153 (by decide +kernel) ?_
  refine va_newa (D := G.1) (atype := .int) (ty := .int) hx hb (hts _ acl_I) rfl hK hP hD hS hA (n := 400) (N' := 400) (a0 := (400, .inl (fun _ => 0))) (fun _ => rfl) (by decide +kernel) (by decide +kernel) (by decide +kernel) (Nat.le_of_ble_eq_true rfl) (Nat.le_of_ble_eq_true rfl) dX11_init_156 (fun q69 cA H hKn hP hD hS => ?_)
  obtain rfl : cA = G.2 0 := g5_cI hKn
  refine g5_rs [(a0, .inr (11, [.ref q1, .ref q14, .ref q41, .ref q42, .ref q47, .ref q49, .ref q57, .ref q58, .ref q61, .null, .int 0, .int 0, .int 0, .null, .int 0, .null, .int 0])), (q1, (oc1 0 1000 (-1) (-1) 0 q2 q3 q5 q7 q9 q11 0 q13)), (q2, (arW G 6 (fun _ => none))), (q3, (oc6 6 5 q4 0)), (q4, (arI G 30 (fun _ => 0))), (q5, (oc6 5 24 q6 0)), (q6, (arI G 120 (fun _ => 0))), (q7, (oc6 10 4 q8 0)), (q8, (arI G 40 (fun _ => 0))), (q9, (oc6 8 5 q10 0)), (q10, (arI G 40 (fun _ => 0))), (q11, (oc6 6 6 q12 0)), (q12, (arI G 36 (fun _ => 0))), (q13, (arJ G 24 (fun _ => 0))), (q14, (arH G 2 (va_up (va_up (fun _ => none) 0 (some q15)) 1 (some q28)))), (q15, (oc1 0 1000 (-1) (-1) 0 q16 q17 q19 q21 q23 q25 0 q27)), (q16, (arW G 6 (fun _ => none))), (q17, (oc6 6 5 q18 0)), (q18, (arI G 30 (fun _ => 0))), (q19, (oc6 5 24 q20 0)), (q20, (arI G 120 (fun _ => 0))), (q21, (oc6 10 4 q22 0)), (q22, (arI G 40 (fun _ => 0))), (q23, (oc6 8 5 q24 0)), (q24, (arI G 40 (fun _ => 0))), (q25, (oc6 6 6 q26 0)), (q26, (arI G 36 (fun _ => 0))), (q27, (arJ G 24 (fun _ => 0))), (q28, (oc1 0 1000 (-1) (-1) 0 q29 q30 q32 q34 q36 q38 0 q40)), (q29, (arW G 6 (fun _ => none))), (q30, (oc6 6 5 q31 0)), (q31, (arI G 30 (fun _ => 0))), (q32, (oc6 5 24 q33 0)), (q33, (arI G 120 (fun _ => 0))), (q34, (oc6 10 4 q35 0)), (q35, (arI G 40 (fun _ => 0))), (q36, (oc6 8 5 q37 0)), (q37, (arI G 40 (fun _ => 0))), (q38, (oc6 6 6 q39 0)), (q39, (arI G 36 (fun _ => 0))), (q40, (arJ G 24 (fun _ => 0))), (q41, (arZ G 2 (fun _ => 0))), (q42, (oc5 q1 q43 q46 0 0 0 0 0 0 0 0 0 0)), (q43, (oc2 q44 q45)), (q44, (arI G 8 (fun _ => 0))), (q45, (arJ G 50 (fun _ => 0))), (q46, (arI G 200 (fun _ => 0))), (q47, (oc10 q1 q42 q48)), (q48, (arJ G 24 (fun _ => 0))), (q49, (oc7 q1 q42 q50 q51 0 q52 q53 q54 q55 q56)), (q50, (arJ G 24 (fun _ => 0))), (q51, (arI G 1536 (fun _ => 0))), (q52, (arJ G 2048 (fun _ => 0))), (q53, (arJ G 2048 (fun _ => 0))), (q54, (arI G 1536 (fun _ => 0))), (q55, (arI G 64 (fun _ => 0))), (q56, (arI G 64 (fun _ => 0))), (q57, (oc0 q1 q42 0 0 0)), (q58, (oc9 q1 q42 q59 q60)), (q59, (arJ G 24 (fun _ => 0))), (q60, (arI G 1536 (fun _ => 0))), (q61, (oc4 q62 q66 q67 q68 0 0 0 (-1))), (q62, (oc8 q63 q64 q65)), (q63, (arI G 401 (fun _ => 0))), (q64, (arI G 401 (fun _ => 0))), (q65, (arI G 401 (fun _ => 0))), (q66, (arI G 12 (fun _ => 0))), (q67, (arI G 13 (fun _ => 0))), (q68, (arI G 400 (fun _ => 0))), (q69, (arI G 400 (fun _ => 0)))] hP hD ?_
  clear hP hD
  intro hP hD
  refine W.widen (k := 69) (n := 12229) (Nat.le_of_ble_eq_true rfl) (Nat.le_of_ble_eq_true rfl) ?_
  refine va_putF (D := G.1) (ci := 11) (v := .ref q69) (ty := .array .int) (C := RX11) (T := TX11) (N := 17) hx hb hts inG_X11 tyX11 tyX11_ok nmX11 hown hK hP hD hS 0 rfl rfl 9 (by decide +kernel) (hts _ fl_X11_70) (fun _ h9 => h9) rfl hin rfl (by decide +kernel) rfl rfl (Nat.le_of_ble_eq_true rfl) dX11_init_158 ?_
  clear hP hD hS
  intro H locs hP hD hS
  refine g5_rs [(a0, .inr (11, [.ref q1, .ref q14, .ref q41, .ref q42, .ref q47, .ref q49, .ref q57, .ref q58, .ref q61, .ref q69, .int 0, .int 0, .int 0, .null, .int 0, .null, .int 0])), (q1, (oc1 0 1000 (-1) (-1) 0 q2 q3 q5 q7 q9 q11 0 q13)), (q2, (arW G 6 (fun _ => none))), (q3, (oc6 6 5 q4 0)), (q4, (arI G 30 (fun _ => 0))), (q5, (oc6 5 24 q6 0)), (q6, (arI G 120 (fun _ => 0))), (q7, (oc6 10 4 q8 0)), (q8, (arI G 40 (fun _ => 0))), (q9, (oc6 8 5 q10 0)), (q10, (arI G 40 (fun _ => 0))), (q11, (oc6 6 6 q12 0)), (q12, (arI G 36 (fun _ => 0))), (q13, (arJ G 24 (fun _ => 0))), (q14, (arH G 2 (va_up (va_up (fun _ => none) 0 (some q15)) 1 (some q28)))), (q15, (oc1 0 1000 (-1) (-1) 0 q16 q17 q19 q21 q23 q25 0 q27)), (q16, (arW G 6 (fun _ => none))), (q17, (oc6 6 5 q18 0)), (q18, (arI G 30 (fun _ => 0))), (q19, (oc6 5 24 q20 0)), (q20, (arI G 120 (fun _ => 0))), (q21, (oc6 10 4 q22 0)), (q22, (arI G 40 (fun _ => 0))), (q23, (oc6 8 5 q24 0)), (q24, (arI G 40 (fun _ => 0))), (q25, (oc6 6 6 q26 0)), (q26, (arI G 36 (fun _ => 0))), (q27, (arJ G 24 (fun _ => 0))), (q28, (oc1 0 1000 (-1) (-1) 0 q29 q30 q32 q34 q36 q38 0 q40)), (q29, (arW G 6 (fun _ => none))), (q30, (oc6 6 5 q31 0)), (q31, (arI G 30 (fun _ => 0))), (q32, (oc6 5 24 q33 0)), (q33, (arI G 120 (fun _ => 0))), (q34, (oc6 10 4 q35 0)), (q35, (arI G 40 (fun _ => 0))), (q36, (oc6 8 5 q37 0)), (q37, (arI G 40 (fun _ => 0))), (q38, (oc6 6 6 q39 0)), (q39, (arI G 36 (fun _ => 0))), (q40, (arJ G 24 (fun _ => 0))), (q41, (arZ G 2 (fun _ => 0))), (q42, (oc5 q1 q43 q46 0 0 0 0 0 0 0 0 0 0)), (q43, (oc2 q44 q45)), (q44, (arI G 8 (fun _ => 0))), (q45, (arJ G 50 (fun _ => 0))), (q46, (arI G 200 (fun _ => 0))), (q47, (oc10 q1 q42 q48)), (q48, (arJ G 24 (fun _ => 0))), (q49, (oc7 q1 q42 q50 q51 0 q52 q53 q54 q55 q56)), (q50, (arJ G 24 (fun _ => 0))), (q51, (arI G 1536 (fun _ => 0))), (q52, (arJ G 2048 (fun _ => 0))), (q53, (arJ G 2048 (fun _ => 0))), (q54, (arI G 1536 (fun _ => 0))), (q55, (arI G 64 (fun _ => 0))), (q56, (arI G 64 (fun _ => 0))), (q57, (oc0 q1 q42 0 0 0)), (q58, (oc9 q1 q42 q59 q60)), (q59, (arJ G 24 (fun _ => 0))), (q60, (arI G 1536 (fun _ => 0))), (q61, (oc4 q62 q66 q67 q68 0 0 0 (-1))), (q62, (oc8 q63 q64 q65)), (q63, (arI G 401 (fun _ => 0))), (q64, (arI G 401 (fun _ => 0))), (q65, (arI G 401 (fun _ => 0))), (q66, (arI G 12 (fun _ => 0))), (q67, (arI G 13 (fun _ => 0))), (q68, (arI G 400 (fun _ => 0))), (q69, (arI G 400 (fun _ => 0)))] hP hD ?_
  clear hP hD
  intro hP hD
  refine W.eq (g2 := F0 m 161 ls []) rfl ?_
  refine lv_aload_n hx hb dX11_init_161 rfl (lv_at hl 0 rfl) ?_
  refine lv_iconst (v := 0) hx hb dX11_init_162 (by decide +kernel) ?_
  refine va_put (D := G.1) (ci := 11) (v := .int 0) (ty := .int) (C := RX11) (T := TX11) (N := 17) hx hb hts inG_X11 tyX11 tyX11_ok nmX11 hown hK hP hD hS 0 rfl rfl 10 (by decide +kernel) (hts _ fl_X11_74) (fun _ h9 => h9) rfl (by decide +kernel) rfl rfl (Nat.le_of_ble_eq_true rfl) dX11_init_163 ?_
  clear hP hD hS
  intro H locs hP hD hS
  refine g5_rs [(a0, .inr (11, [.ref q1, .ref q14, .ref q41, .ref q42, .ref q47, .ref q49, .ref q57, .ref q58, .ref q61, .ref q69, .int 0, .int 0, .int 0, .null, .int 0, .null, .int 0])), (q1, (oc1 0 1000 (-1) (-1) 0 q2 q3 q5 q7 q9 q11 0 q13)), (q2, (arW G 6 (fun _ => none))), (q3, (oc6 6 5 q4 0)), (q4, (arI G 30 (fun _ => 0))), (q5, (oc6 5 24 q6 0)), (q6, (arI G 120 (fun _ => 0))), (q7, (oc6 10 4 q8 0)), (q8, (arI G 40 (fun _ => 0))), (q9, (oc6 8 5 q10 0)), (q10, (arI G 40 (fun _ => 0))), (q11, (oc6 6 6 q12 0)), (q12, (arI G 36 (fun _ => 0))), (q13, (arJ G 24 (fun _ => 0))), (q14, (arH G 2 (va_up (va_up (fun _ => none) 0 (some q15)) 1 (some q28)))), (q15, (oc1 0 1000 (-1) (-1) 0 q16 q17 q19 q21 q23 q25 0 q27)), (q16, (arW G 6 (fun _ => none))), (q17, (oc6 6 5 q18 0)), (q18, (arI G 30 (fun _ => 0))), (q19, (oc6 5 24 q20 0)), (q20, (arI G 120 (fun _ => 0))), (q21, (oc6 10 4 q22 0)), (q22, (arI G 40 (fun _ => 0))), (q23, (oc6 8 5 q24 0)), (q24, (arI G 40 (fun _ => 0))), (q25, (oc6 6 6 q26 0)), (q26, (arI G 36 (fun _ => 0))), (q27, (arJ G 24 (fun _ => 0))), (q28, (oc1 0 1000 (-1) (-1) 0 q29 q30 q32 q34 q36 q38 0 q40)), (q29, (arW G 6 (fun _ => none))), (q30, (oc6 6 5 q31 0)), (q31, (arI G 30 (fun _ => 0))), (q32, (oc6 5 24 q33 0)), (q33, (arI G 120 (fun _ => 0))), (q34, (oc6 10 4 q35 0)), (q35, (arI G 40 (fun _ => 0))), (q36, (oc6 8 5 q37 0)), (q37, (arI G 40 (fun _ => 0))), (q38, (oc6 6 6 q39 0)), (q39, (arI G 36 (fun _ => 0))), (q40, (arJ G 24 (fun _ => 0))), (q41, (arZ G 2 (fun _ => 0))), (q42, (oc5 q1 q43 q46 0 0 0 0 0 0 0 0 0 0)), (q43, (oc2 q44 q45)), (q44, (arI G 8 (fun _ => 0))), (q45, (arJ G 50 (fun _ => 0))), (q46, (arI G 200 (fun _ => 0))), (q47, (oc10 q1 q42 q48)), (q48, (arJ G 24 (fun _ => 0))), (q49, (oc7 q1 q42 q50 q51 0 q52 q53 q54 q55 q56)), (q50, (arJ G 24 (fun _ => 0))), (q51, (arI G 1536 (fun _ => 0))), (q52, (arJ G 2048 (fun _ => 0))), (q53, (arJ G 2048 (fun _ => 0))), (q54, (arI G 1536 (fun _ => 0))), (q55, (arI G 64 (fun _ => 0))), (q56, (arI G 64 (fun _ => 0))), (q57, (oc0 q1 q42 0 0 0)), (q58, (oc9 q1 q42 q59 q60)), (q59, (arJ G 24 (fun _ => 0))), (q60, (arI G 1536 (fun _ => 0))), (q61, (oc4 q62 q66 q67 q68 0 0 0 (-1))), (q62, (oc8 q63 q64 q65)), (q63, (arI G 401 (fun _ => 0))), (q64, (arI G 401 (fun _ => 0))), (q65, (arI G 401 (fun _ => 0))), (q66, (arI G 12 (fun _ => 0))), (q67, (arI G 13 (fun _ => 0))), (q68, (arI G 400 (fun _ => 0))), (q69, (arI G 400 (fun _ => 0)))] hP hD ?_
  clear hP hD
  intro hP hD
  refine lv_aload_n hx hb dX11_init_166 rfl (lv_at hl 0 rfl) ?_
  refine lv_iconst (v := 0) hx hb dX11_init_167 (by decide +kernel) ?_
  refine W.eq (g2 := F0 m 168 ls [.int 0, .ref a0]) rfl ?_
  refine va_put (D := G.1) (ci := 11) (v := .int 0) (ty := .int) (C := RX11) (T := TX11) (N := 17) hx hb hts inG_X11 tyX11 tyX11_ok nmX11 hown hK hP hD hS 0 rfl rfl 11 (by decide +kernel) (hts _ fl_X11_78) (fun _ h9 => h9) rfl (by decide +kernel) rfl rfl (Nat.le_of_ble_eq_true rfl) dX11_init_168 ?_
  clear hP hD hS
  intro H locs hP hD hS
  refine g5_rs [(a0, .inr (11, [.ref q1, .ref q14, .ref q41, .ref q42, .ref q47, .ref q49, .ref q57, .ref q58, .ref q61, .ref q69, .int 0, .int 0, .int 0, .null, .int 0, .null, .int 0])), (q1, (oc1 0 1000 (-1) (-1) 0 q2 q3 q5 q7 q9 q11 0 q13)), (q2, (arW G 6 (fun _ => none))), (q3, (oc6 6 5 q4 0)), (q4, (arI G 30 (fun _ => 0))), (q5, (oc6 5 24 q6 0)), (q6, (arI G 120 (fun _ => 0))), (q7, (oc6 10 4 q8 0)), (q8, (arI G 40 (fun _ => 0))), (q9, (oc6 8 5 q10 0)), (q10, (arI G 40 (fun _ => 0))), (q11, (oc6 6 6 q12 0)), (q12, (arI G 36 (fun _ => 0))), (q13, (arJ G 24 (fun _ => 0))), (q14, (arH G 2 (va_up (va_up (fun _ => none) 0 (some q15)) 1 (some q28)))), (q15, (oc1 0 1000 (-1) (-1) 0 q16 q17 q19 q21 q23 q25 0 q27)), (q16, (arW G 6 (fun _ => none))), (q17, (oc6 6 5 q18 0)), (q18, (arI G 30 (fun _ => 0))), (q19, (oc6 5 24 q20 0)), (q20, (arI G 120 (fun _ => 0))), (q21, (oc6 10 4 q22 0)), (q22, (arI G 40 (fun _ => 0))), (q23, (oc6 8 5 q24 0)), (q24, (arI G 40 (fun _ => 0))), (q25, (oc6 6 6 q26 0)), (q26, (arI G 36 (fun _ => 0))), (q27, (arJ G 24 (fun _ => 0))), (q28, (oc1 0 1000 (-1) (-1) 0 q29 q30 q32 q34 q36 q38 0 q40)), (q29, (arW G 6 (fun _ => none))), (q30, (oc6 6 5 q31 0)), (q31, (arI G 30 (fun _ => 0))), (q32, (oc6 5 24 q33 0)), (q33, (arI G 120 (fun _ => 0))), (q34, (oc6 10 4 q35 0)), (q35, (arI G 40 (fun _ => 0))), (q36, (oc6 8 5 q37 0)), (q37, (arI G 40 (fun _ => 0))), (q38, (oc6 6 6 q39 0)), (q39, (arI G 36 (fun _ => 0))), (q40, (arJ G 24 (fun _ => 0))), (q41, (arZ G 2 (fun _ => 0))), (q42, (oc5 q1 q43 q46 0 0 0 0 0 0 0 0 0 0)), (q43, (oc2 q44 q45)), (q44, (arI G 8 (fun _ => 0))), (q45, (arJ G 50 (fun _ => 0))), (q46, (arI G 200 (fun _ => 0))), (q47, (oc10 q1 q42 q48)), (q48, (arJ G 24 (fun _ => 0))), (q49, (oc7 q1 q42 q50 q51 0 q52 q53 q54 q55 q56)), (q50, (arJ G 24 (fun _ => 0))), (q51, (arI G 1536 (fun _ => 0))), (q52, (arJ G 2048 (fun _ => 0))), (q53, (arJ G 2048 (fun _ => 0))), (q54, (arI G 1536 (fun _ => 0))), (q55, (arI G 64 (fun _ => 0))), (q56, (arI G 64 (fun _ => 0))), (q57, (oc0 q1 q42 0 0 0)), (q58, (oc9 q1 q42 q59 q60)), (q59, (arJ G 24 (fun _ => 0))), (q60, (arI G 1536 (fun _ => 0))), (q61, (oc4 q62 q66 q67 q68 0 0 0 (-1))), (q62, (oc8 q63 q64 q65)), (q63, (arI G 401 (fun _ => 0))), (q64, (arI G 401 (fun _ => 0))), (q65, (arI G 401 (fun _ => 0))), (q66, (arI G 12 (fun _ => 0))), (q67, (arI G 13 (fun _ => 0))), (q68, (arI G 400 (fun _ => 0))), (q69, (arI G 400 (fun _ => 0)))] hP hD ?_
  clear hP hD
  intro hP hD
  refine lv_aload_n hx hb dX11_init_171 rfl (lv_at hl 0 rfl) ?_
  refine lv_iconst (v := (-1)) hx hb dX11_init_172 (by decide +kernel) ?_
  refine va_put (D := G.1) (ci := 11) (v := .int (-1)) (ty := .int) (C := RX11) (T := TX11) (N := 17) hx hb hts inG_X11 tyX11 tyX11_ok nmX11 hown hK hP hD hS 0 rfl rfl 12 (by decide +kernel) (hts _ fl_X11_81) (fun _ h9 => h9) rfl (by decide +kernel) rfl rfl (Nat.le_of_ble_eq_true rfl) dX11_init_173 ?_
  clear hP hD hS
  intro H locs hP hD hS
  refine g5_rs [(a0, .inr (11, [.ref q1, .ref q14, .ref q41, .ref q42, .ref q47, .ref q49, .ref q57, .ref q58, .ref q61, .ref q69, .int 0, .int 0, .int (-1), .null, .int 0, .null, .int 0])), (q1, (oc1 0 1000 (-1) (-1) 0 q2 q3 q5 q7 q9 q11 0 q13)), (q2, (arW G 6 (fun _ => none))), (q3, (oc6 6 5 q4 0)), (q4, (arI G 30 (fun _ => 0))), (q5, (oc6 5 24 q6 0)), (q6, (arI G 120 (fun _ => 0))), (q7, (oc6 10 4 q8 0)), (q8, (arI G 40 (fun _ => 0))), (q9, (oc6 8 5 q10 0)), (q10, (arI G 40 (fun _ => 0))), (q11, (oc6 6 6 q12 0)), (q12, (arI G 36 (fun _ => 0))), (q13, (arJ G 24 (fun _ => 0))), (q14, (arH G 2 (va_up (va_up (fun _ => none) 0 (some q15)) 1 (some q28)))), (q15, (oc1 0 1000 (-1) (-1) 0 q16 q17 q19 q21 q23 q25 0 q27)), (q16, (arW G 6 (fun _ => none))), (q17, (oc6 6 5 q18 0)), (q18, (arI G 30 (fun _ => 0))), (q19, (oc6 5 24 q20 0)), (q20, (arI G 120 (fun _ => 0))), (q21, (oc6 10 4 q22 0)), (q22, (arI G 40 (fun _ => 0))), (q23, (oc6 8 5 q24 0)), (q24, (arI G 40 (fun _ => 0))), (q25, (oc6 6 6 q26 0)), (q26, (arI G 36 (fun _ => 0))), (q27, (arJ G 24 (fun _ => 0))), (q28, (oc1 0 1000 (-1) (-1) 0 q29 q30 q32 q34 q36 q38 0 q40)), (q29, (arW G 6 (fun _ => none))), (q30, (oc6 6 5 q31 0)), (q31, (arI G 30 (fun _ => 0))), (q32, (oc6 5 24 q33 0)), (q33, (arI G 120 (fun _ => 0))), (q34, (oc6 10 4 q35 0)), (q35, (arI G 40 (fun _ => 0))), (q36, (oc6 8 5 q37 0)), (q37, (arI G 40 (fun _ => 0))), (q38, (oc6 6 6 q39 0)), (q39, (arI G 36 (fun _ => 0))), (q40, (arJ G 24 (fun _ => 0))), (q41, (arZ G 2 (fun _ => 0))), (q42, (oc5 q1 q43 q46 0 0 0 0 0 0 0 0 0 0)), (q43, (oc2 q44 q45)), (q44, (arI G 8 (fun _ => 0))), (q45, (arJ G 50 (fun _ => 0))), (q46, (arI G 200 (fun _ => 0))), (q47, (oc10 q1 q42 q48)), (q48, (arJ G 24 (fun _ => 0))), (q49, (oc7 q1 q42 q50 q51 0 q52 q53 q54 q55 q56)), (q50, (arJ G 24 (fun _ => 0))), (q51, (arI G 1536 (fun _ => 0))), (q52, (arJ G 2048 (fun _ => 0))), (q53, (arJ G 2048 (fun _ => 0))), (q54, (arI G 1536 (fun _ => 0))), (q55, (arI G 64 (fun _ => 0))), (q56, (arI G 64 (fun _ => 0))), (q57, (oc0 q1 q42 0 0 0)), (q58, (oc9 q1 q42 q59 q60)), (q59, (arJ G 24 (fun _ => 0))), (q60, (arI G 1536 (fun _ => 0))), (q61, (oc4 q62 q66 q67 q68 0 0 0 (-1))), (q62, (oc8 q63 q64 q65)), (q63, (arI G 401 (fun _ => 0))), (q64, (arI G 401 (fun _ => 0))), (q65, (arI G 401 (fun _ => 0))), (q66, (arI G 12 (fun _ => 0))), (q67, (arI G 13 (fun _ => 0))), (q68, (arI G 400 (fun _ => 0))), (q69, (arI G 400 (fun _ => 0)))] hP hD ?_
  clear hP hD
  intro hP hD
  refine lv_aload_n hx hb dX11_init_176 rfl (lv_at hl 0 rfl) ?_
  refine W.eq (g2 := F0 m 177 ls [.ref a0]) rfl ?_
  refine lv_bipush (v := 24) hx hb dX11_init_177 (by decide +kernel) ?_
  refine va_newa (D := G.1) (atype := .int) (ty := .int) hx hb (hts _ acl_I) rfl hK hP hD hS hA (n := 24) (N' := 24) (a0 := (24, .inl (fun _ => 0))) (fun _ => rfl) (by decide +kernel) (by decide +kernel) (by decide +kernel) (Nat.le_of_ble_eq_true rfl) (Nat.le_of_ble_eq_true rfl) dX11_init_179 (fun q70 cA H hKn hP hD hS => ?_)
  obtain rfl : cA = G.2 0 := g5_cI hKn
  refine g5_rs [(a0, .inr (11, [.ref q1, .ref q14, .ref q41, .ref q42, .ref q47, .ref q49, .ref q57, .ref q58, .ref q61, .ref q69, .int 0, .int 0, .int (-1), .null, .int 0, .null, .int 0])), (q1, (oc1 0 1000 (-1) (-1) 0 q2 q3 q5 q7 q9 q11 0 q13)), (q2, (arW G 6 (fun _ => none))), (q3, (oc6 6 5 q4 0)), (q4, (arI G 30 (fun _ => 0))), (q5, (oc6 5 24 q6 0)), (q6, (arI G 120 (fun _ => 0))), (q7, (oc6 10 4 q8 0)), (q8, (arI G 40 (fun _ => 0))), (q9, (oc6 8 5 q10 0)), (q10, (arI G 40 (fun _ => 0))), (q11, (oc6 6 6 q12 0)), (q12, (arI G 36 (fun _ => 0))), (q13, (arJ G 24 (fun _ => 0))), (q14, (arH G 2 (va_up (va_up (fun _ => none) 0 (some q15)) 1 (some q28)))), (q15, (oc1 0 1000 (-1) (-1) 0 q16 q17 q19 q21 q23 q25 0 q27)), (q16, (arW G 6 (fun _ => none))), (q17, (oc6 6 5 q18 0)), (q18, (arI G 30 (fun _ => 0))), (q19, (oc6 5 24 q20 0)), (q20, (arI G 120 (fun _ => 0))), (q21, (oc6 10 4 q22 0)), (q22, (arI G 40 (fun _ => 0))), (q23, (oc6 8 5 q24 0)), (q24, (arI G 40 (fun _ => 0))), (q25, (oc6 6 6 q26 0)), (q26, (arI G 36 (fun _ => 0))), (q27, (arJ G 24 (fun _ => 0))), (q28, (oc1 0 1000 (-1) (-1) 0 q29 q30 q32 q34 q36 q38 0 q40)), (q29, (arW G 6 (fun _ => none))), (q30, (oc6 6 5 q31 0)), (q31, (arI G 30 (fun _ => 0))), (q32, (oc6 5 24 q33 0)), (q33, (arI G 120 (fun _ => 0))), (q34, (oc6 10 4 q35 0)), (q35, (arI G 40 (fun _ => 0))), (q36, (oc6 8 5 q37 0)), (q37, (arI G 40 (fun _ => 0))), (q38, (oc6 6 6 q39 0)), (q39, (arI G 36 (fun _ => 0))), (q40, (arJ G 24 (fun _ => 0))), (q41, (arZ G 2 (fun _ => 0))), (q42, (oc5 q1 q43 q46 0 0 0 0 0 0 0 0 0 0)), (q43, (oc2 q44 q45)), (q44, (arI G 8 (fun _ => 0))), (q45, (arJ G 50 (fun _ => 0))), (q46, (arI G 200 (fun _ => 0))), (q47, (oc10 q1 q42 q48)), (q48, (arJ G 24 (fun _ => 0))), (q49, (oc7 q1 q42 q50 q51 0 q52 q53 q54 q55 q56)), (q50, (arJ G 24 (fun _ => 0))), (q51, (arI G 1536 (fun _ => 0))), (q52, (arJ G 2048 (fun _ => 0))), (q53, (arJ G 2048 (fun _ => 0))), (q54, (arI G 1536 (fun _ => 0))), (q55, (arI G 64 (fun _ => 0))), (q56, (arI G 64 (fun _ => 0))), (q57, (oc0 q1 q42 0 0 0)), (q58, (oc9 q1 q42 q59 q60)), (q59, (arJ G 24 (fun _ => 0))), (q60, (arI G 1536 (fun _ => 0))), (q61, (oc4 q62 q66 q67 q68 0 0 0 (-1))), (q62, (oc8 q63 q64 q65)), (q63, (arI G 401 (fun _ => 0))), (q64, (arI G 401 (fun _ => 0))), (q65, (arI G 401 (fun _ => 0))), (q66, (arI G 12 (fun _ => 0))), (q67, (arI G 13 (fun _ => 0))), (q68, (arI G 400 (fun _ => 0))), (q69, (arI G 400 (fun _ => 0))), (q70, (arI G 24 (fun _ => 0)))] hP hD ?_
  clear hP hD
  intro hP hD
  refine W.widen (k := 70) (n := 12253) (Nat.le_of_ble_eq_true rfl) (Nat.le_of_ble_eq_true rfl) ?_
  refine va_putF (D := G.1) (ci := 11) (v := .ref q70) (ty := .array .int) (C := RX11) (T := TX11) (N := 17) hx hb hts inG_X11 tyX11 tyX11_ok nmX11 hown hK hP hD hS 0 rfl rfl 13 (by decide +kernel) (hts _ fl_X11_84) (fun _ h9 => h9) rfl hin rfl (by decide +kernel) rfl rfl (Nat.le_of_ble_eq_true rfl) dX11_init_181 ?_
  clear hP hD hS
  intro H locs hP hD hS
  refine g5_rs [(a0, .inr (11, [.ref q1, .ref q14, .ref q41, .ref q42, .ref q47, .ref q49, .ref q57, .ref q58, .ref q61, .ref q69, .int 0, .int 0, .int (-1), .ref q70, .int 0, .null, .int 0])), (q1, (oc1 0 1000 (-1) (-1) 0 q2 q3 q5 q7 q9 q11 0 q13)), (q2, (arW G 6 (fun _ => none))), (q3, (oc6 6 5 q4 0)), (q4, (arI G 30 (fun _ => 0))), (q5, (oc6 5 24 q6 0)), (q6, (arI G 120 (fun _ => 0))), (q7, (oc6 10 4 q8 0)), (q8, (arI G 40 (fun _ => 0))), (q9, (oc6 8 5 q10 0)), (q10, (arI G 40 (fun _ => 0))), (q11, (oc6 6 6 q12 0)), (q12, (arI G 36 (fun _ => 0))), (q13, (arJ G 24 (fun _ => 0))), (q14, (arH G 2 (va_up (va_up (fun _ => none) 0 (some q15)) 1 (some q28)))), (q15, (oc1 0 1000 (-1) (-1) 0 q16 q17 q19 q21 q23 q25 0 q27)), (q16, (arW G 6 (fun _ => none))), (q17, (oc6 6 5 q18 0)), (q18, (arI G 30 (fun _ => 0))), (q19, (oc6 5 24 q20 0)), (q20, (arI G 120 (fun _ => 0))), (q21, (oc6 10 4 q22 0)), (q22, (arI G 40 (fun _ => 0))), (q23, (oc6 8 5 q24 0)), (q24, (arI G 40 (fun _ => 0))), (q25, (oc6 6 6 q26 0)), (q26, (arI G 36 (fun _ => 0))), (q27, (arJ G 24 (fun _ => 0))), (q28, (oc1 0 1000 (-1) (-1) 0 q29 q30 q32 q34 q36 q38 0 q40)), (q29, (arW G 6 (fun _ => none))), (q30, (oc6 6 5 q31 0)), (q31, (arI G 30 (fun _ => 0))), (q32, (oc6 5 24 q33 0)), (q33, (arI G 120 (fun _ => 0))), (q34, (oc6 10 4 q35 0)), (q35, (arI G 40 (fun _ => 0))), (q36, (oc6 8 5 q37 0)), (q37, (arI G 40 (fun _ => 0))), (q38, (oc6 6 6 q39 0)), (q39, (arI G 36 (fun _ => 0))), (q40, (arJ G 24 (fun _ => 0))), (q41, (arZ G 2 (fun _ => 0))), (q42, (oc5 q1 q43 q46 0 0 0 0 0 0 0 0 0 0)), (q43, (oc2 q44 q45)), (q44, (arI G 8 (fun _ => 0))), (q45, (arJ G 50 (fun _ => 0))), (q46, (arI G 200 (fun _ => 0))), (q47, (oc10 q1 q42 q48)), (q48, (arJ G 24 (fun _ => 0))), (q49, (oc7 q1 q42 q50 q51 0 q52 q53 q54 q55 q56)), (q50, (arJ G 24 (fun _ => 0))), (q51, (arI G 1536 (fun _ => 0))), (q52, (arJ G 2048 (fun _ => 0))), (q53, (arJ G 2048 (fun _ => 0))), (q54, (arI G 1536 (fun _ => 0))), (q55, (arI G 64 (fun _ => 0))), (q56, (arI G 64 (fun _ => 0))), (q57, (oc0 q1 q42 0 0 0)), (q58, (oc9 q1 q42 q59 q60)), (q59, (arJ G 24 (fun _ => 0))), (q60, (arI G 1536 (fun _ => 0))), (q61, (oc4 q62 q66 q67 q68 0 0 0 (-1))), (q62, (oc8 q63 q64 q65)), (q63, (arI G 401 (fun _ => 0))), (q64, (arI G 401 (fun _ => 0))), (q65, (arI G 401 (fun _ => 0))), (q66, (arI G 12 (fun _ => 0))), (q67, (arI G 13 (fun _ => 0))), (q68, (arI G 400 (fun _ => 0))), (q69, (arI G 400 (fun _ => 0))), (q70, (arI G 24 (fun _ => 0)))] hP hD ?_
  clear hP hD
  intro hP hD
  refine lv_aload_n hx hb dX11_init_184 rfl (lv_at hl 0 rfl) ?_
  refine lv_iconst (v := 0) hx hb dX11_init_185 (by decide +kernel) ?_
  refine W.eq (g2 := F0 m 186 ls [.int 0, .ref a0]) rfl ?_
  refine va_put (D := G.1) (ci := 11) (v := .int 0) (ty := .boolean) (C := RX11) (T := TX11) (N := 17) hx hb hts inG_X11 tyX11 tyX11_ok nmX11 hown hK hP hD hS 0 rfl rfl 14 (by decide +kernel) (hts _ fl_X11_87) (fun _ h9 => h9) rfl (by decide +kernel) rfl rfl (Nat.le_of_ble_eq_true rfl) dX11_init_186 ?_
  clear hP hD hS
  intro H locs hP hD hS
  refine g5_rs [(a0, .inr (11, [.ref q1, .ref q14, .ref q41, .ref q42, .ref q47, .ref q49, .ref q57, .ref q58, .ref q61, .ref q69, .int 0, .int 0, .int (-1), .ref q70, .int 0, .null, .int 0])), (q1, (oc1 0 1000 (-1) (-1) 0 q2 q3 q5 q7 q9 q11 0 q13)), (q2, (arW G 6 (fun _ => none))), (q3, (oc6 6 5 q4 0)), (q4, (arI G 30 (fun _ => 0))), (q5, (oc6 5 24 q6 0)), (q6, (arI G 120 (fun _ => 0))), (q7, (oc6 10 4 q8 0)), (q8, (arI G 40 (fun _ => 0))), (q9, (oc6 8 5 q10 0)), (q10, (arI G 40 (fun _ => 0))), (q11, (oc6 6 6 q12 0)), (q12, (arI G 36 (fun _ => 0))), (q13, (arJ G 24 (fun _ => 0))), (q14, (arH G 2 (va_up (va_up (fun _ => none) 0 (some q15)) 1 (some q28)))), (q15, (oc1 0 1000 (-1) (-1) 0 q16 q17 q19 q21 q23 q25 0 q27)), (q16, (arW G 6 (fun _ => none))), (q17, (oc6 6 5 q18 0)), (q18, (arI G 30 (fun _ => 0))), (q19, (oc6 5 24 q20 0)), (q20, (arI G 120 (fun _ => 0))), (q21, (oc6 10 4 q22 0)), (q22, (arI G 40 (fun _ => 0))), (q23, (oc6 8 5 q24 0)), (q24, (arI G 40 (fun _ => 0))), (q25, (oc6 6 6 q26 0)), (q26, (arI G 36 (fun _ => 0))), (q27, (arJ G 24 (fun _ => 0))), (q28, (oc1 0 1000 (-1) (-1) 0 q29 q30 q32 q34 q36 q38 0 q40)), (q29, (arW G 6 (fun _ => none))), (q30, (oc6 6 5 q31 0)), (q31, (arI G 30 (fun _ => 0))), (q32, (oc6 5 24 q33 0)), (q33, (arI G 120 (fun _ => 0))), (q34, (oc6 10 4 q35 0)), (q35, (arI G 40 (fun _ => 0))), (q36, (oc6 8 5 q37 0)), (q37, (arI G 40 (fun _ => 0))), (q38, (oc6 6 6 q39 0)), (q39, (arI G 36 (fun _ => 0))), (q40, (arJ G 24 (fun _ => 0))), (q41, (arZ G 2 (fun _ => 0))), (q42, (oc5 q1 q43 q46 0 0 0 0 0 0 0 0 0 0)), (q43, (oc2 q44 q45)), (q44, (arI G 8 (fun _ => 0))), (q45, (arJ G 50 (fun _ => 0))), (q46, (arI G 200 (fun _ => 0))), (q47, (oc10 q1 q42 q48)), (q48, (arJ G 24 (fun _ => 0))), (q49, (oc7 q1 q42 q50 q51 0 q52 q53 q54 q55 q56)), (q50, (arJ G 24 (fun _ => 0))), (q51, (arI G 1536 (fun _ => 0))), (q52, (arJ G 2048 (fun _ => 0))), (q53, (arJ G 2048 (fun _ => 0))), (q54, (arI G 1536 (fun _ => 0))), (q55, (arI G 64 (fun _ => 0))), (q56, (arI G 64 (fun _ => 0))), (q57, (oc0 q1 q42 0 0 0)), (q58, (oc9 q1 q42 q59 q60)), (q59, (arJ G 24 (fun _ => 0))), (q60, (arI G 1536 (fun _ => 0))), (q61, (oc4 q62 q66 q67 q68 0 0 0 (-1))), (q62, (oc8 q63 q64 q65)), (q63, (arI G 401 (fun _ => 0))), (q64, (arI G 401 (fun _ => 0))), (q65, (arI G 401 (fun _ => 0))), (q66, (arI G 12 (fun _ => 0))), (q67, (arI G 13 (fun _ => 0))), (q68, (arI G 400 (fun _ => 0))), (q69, (arI G 400 (fun _ => 0))), (q70, (arI G 24 (fun _ => 0)))] hP hD ?_
  clear hP hD
  intro hP hD
  refine lv_aload_n hx hb dX11_init_189 rfl (lv_at hl 0 rfl) ?_
  refine lv_iconst (v := 5) hx hb dX11_init_190 (by decide +kernel) ?_
  refine va_newa (D := G.1) (atype := .int) (ty := .int) hx hb (hts _ acl_I) rfl hK hP hD hS hA (n := 5) (N' := 5) (a0 := (5, .inl (fun _ => 0))) (fun _ => rfl) (by decide +kernel) (by decide +kernel) (by decide +kernel) (Nat.le_of_ble_eq_true rfl) (Nat.le_of_ble_eq_true rfl) dX11_init_191 (fun q71 cA H hKn hP hD hS => ?_)
  obtain rfl : cA = G.2 0 := g5_cI hKn
  refine g5_rs [(a0, .inr (11, [.ref q1, .ref q14, .ref q41, .ref q42, .ref q47, .ref q49, .ref q57, .ref q58, .ref q61, .ref q69, .int 0, .int 0, .int (-1), .ref q70, .int 0, .null, .int 0])), (q1, (oc1 0 1000 (-1) (-1) 0 q2 q3 q5 q7 q9 q11 0 q13)), (q2, (arW G 6 (fun _ => none))), (q3, (oc6 6 5 q4 0)), (q4, (arI G 30 (fun _ => 0))), (q5, (oc6 5 24 q6 0)), (q6, (arI G 120 (fun _ => 0))), (q7, (oc6 10 4 q8 0)), (q8, (arI G 40 (fun _ => 0))), (q9, (oc6 8 5 q10 0)), (q10, (arI G 40 (fun _ => 0))), (q11, (oc6 6 6 q12 0)), (q12, (arI G 36 (fun _ => 0))), (q13, (arJ G 24 (fun _ => 0))), (q14, (arH G 2 (va_up (va_up (fun _ => none) 0 (some q15)) 1 (some q28)))), (q15, (oc1 0 1000 (-1) (-1) 0 q16 q17 q19 q21 q23 q25 0 q27)), (q16, (arW G 6 (fun _ => none))), (q17, (oc6 6 5 q18 0)), (q18, (arI G 30 (fun _ => 0))), (q19, (oc6 5 24 q20 0)), (q20, (arI G 120 (fun _ => 0))), (q21, (oc6 10 4 q22 0)), (q22, (arI G 40 (fun _ => 0))), (q23, (oc6 8 5 q24 0)), (q24, (arI G 40 (fun _ => 0))), (q25, (oc6 6 6 q26 0)), (q26, (arI G 36 (fun _ => 0))), (q27, (arJ G 24 (fun _ => 0))), (q28, (oc1 0 1000 (-1) (-1) 0 q29 q30 q32 q34 q36 q38 0 q40)), (q29, (arW G 6 (fun _ => none))), (q30, (oc6 6 5 q31 0)), (q31, (arI G 30 (fun _ => 0))), (q32, (oc6 5 24 q33 0)), (q33, (arI G 120 (fun _ => 0))), (q34, (oc6 10 4 q35 0)), (q35, (arI G 40 (fun _ => 0))), (q36, (oc6 8 5 q37 0)), (q37, (arI G 40 (fun _ => 0))), (q38, (oc6 6 6 q39 0)), (q39, (arI G 36 (fun _ => 0))), (q40, (arJ G 24 (fun _ => 0))), (q41, (arZ G 2 (fun _ => 0))), (q42, (oc5 q1 q43 q46 0 0 0 0 0 0 0 0 0 0)), (q43, (oc2 q44 q45)), (q44, (arI G 8 (fun _ => 0))), (q45, (arJ G 50 (fun _ => 0))), (q46, (arI G 200 (fun _ => 0))), (q47, (oc10 q1 q42 q48)), (q48, (arJ G 24 (fun _ => 0))), (q49, (oc7 q1 q42 q50 q51 0 q52 q53 q54 q55 q56)), (q50, (arJ G 24 (fun _ => 0))), (q51, (arI G 1536 (fun _ => 0))), (q52, (arJ G 2048 (fun _ => 0))), (q53, (arJ G 2048 (fun _ => 0))), (q54, (arI G 1536 (fun _ => 0))), (q55, (arI G 64 (fun _ => 0))), (q56, (arI G 64 (fun _ => 0))), (q57, (oc0 q1 q42 0 0 0)), (q58, (oc9 q1 q42 q59 q60)), (q59, (arJ G 24 (fun _ => 0))), (q60, (arI G 1536 (fun _ => 0))), (q61, (oc4 q62 q66 q67 q68 0 0 0 (-1))), (q62, (oc8 q63 q64 q65)), (q63, (arI G 401 (fun _ => 0))), (q64, (arI G 401 (fun _ => 0))), (q65, (arI G 401 (fun _ => 0))), (q66, (arI G 12 (fun _ => 0))), (q67, (arI G 13 (fun _ => 0))), (q68, (arI G 400 (fun _ => 0))), (q69, (arI G 400 (fun _ => 0))), (q70, (arI G 24 (fun _ => 0))), (q71, (arI G 5 (fun _ => 0)))] hP hD ?_
  clear hP hD
  intro hP hD
  refine W.widen (k := 71) (n := 12258) (Nat.le_of_ble_eq_true rfl) (Nat.le_of_ble_eq_true rfl) ?_
  refine va_putF (D := G.1) (ci := 11) (v := .ref q71) (ty := .array .int) (C := RX11) (T := TX11) (N := 17) hx hb hts inG_X11 tyX11 tyX11_ok nmX11 hown hK hP hD hS 0 rfl rfl 15 (by decide +kernel) (hts _ fl_X11_91) (fun _ h9 => h9) rfl hin rfl (by decide +kernel) rfl rfl (Nat.le_of_ble_eq_true rfl) dX11_init_193 ?_
  clear hP hD hS
  intro H locs hP hD hS
  refine g5_rs [(a0, (oc11 q1 q14 q41 q42 q47 q49 q57 q58 q61 q69 0 0 (-1) q70 0 q71 0)), (q1, (oc1 0 1000 (-1) (-1) 0 q2 q3 q5 q7 q9 q11 0 q13)), (q2, (arW G 6 (fun _ => none))), (q3, (oc6 6 5 q4 0)), (q4, (arI G 30 (fun _ => 0))), (q5, (oc6 5 24 q6 0)), (q6, (arI G 120 (fun _ => 0))), (q7, (oc6 10 4 q8 0)), (q8, (arI G 40 (fun _ => 0))), (q9, (oc6 8 5 q10 0)), (q10, (arI G 40 (fun _ => 0))), (q11, (oc6 6 6 q12 0)), (q12, (arI G 36 (fun _ => 0))), (q13, (arJ G 24 (fun _ => 0))), (q14, (arH G 2 (va_up (va_up (fun _ => none) 0 (some q15)) 1 (some q28)))), (q15, (oc1 0 1000 (-1) (-1) 0 q16 q17 q19 q21 q23 q25 0 q27)), (q16, (arW G 6 (fun _ => none))), (q17, (oc6 6 5 q18 0)), (q18, (arI G 30 (fun _ => 0))), (q19, (oc6 5 24 q20 0)), (q20, (arI G 120 (fun _ => 0))), (q21, (oc6 10 4 q22 0)), (q22, (arI G 40 (fun _ => 0))), (q23, (oc6 8 5 q24 0)), (q24, (arI G 40 (fun _ => 0))), (q25, (oc6 6 6 q26 0)), (q26, (arI G 36 (fun _ => 0))), (q27, (arJ G 24 (fun _ => 0))), (q28, (oc1 0 1000 (-1) (-1) 0 q29 q30 q32 q34 q36 q38 0 q40)), (q29, (arW G 6 (fun _ => none))), (q30, (oc6 6 5 q31 0)), (q31, (arI G 30 (fun _ => 0))), (q32, (oc6 5 24 q33 0)), (q33, (arI G 120 (fun _ => 0))), (q34, (oc6 10 4 q35 0)), (q35, (arI G 40 (fun _ => 0))), (q36, (oc6 8 5 q37 0)), (q37, (arI G 40 (fun _ => 0))), (q38, (oc6 6 6 q39 0)), (q39, (arI G 36 (fun _ => 0))), (q40, (arJ G 24 (fun _ => 0))), (q41, (arZ G 2 (fun _ => 0))), (q42, (oc5 q1 q43 q46 0 0 0 0 0 0 0 0 0 0)), (q43, (oc2 q44 q45)), (q44, (arI G 8 (fun _ => 0))), (q45, (arJ G 50 (fun _ => 0))), (q46, (arI G 200 (fun _ => 0))), (q47, (oc10 q1 q42 q48)), (q48, (arJ G 24 (fun _ => 0))), (q49, (oc7 q1 q42 q50 q51 0 q52 q53 q54 q55 q56)), (q50, (arJ G 24 (fun _ => 0))), (q51, (arI G 1536 (fun _ => 0))), (q52, (arJ G 2048 (fun _ => 0))), (q53, (arJ G 2048 (fun _ => 0))), (q54, (arI G 1536 (fun _ => 0))), (q55, (arI G 64 (fun _ => 0))), (q56, (arI G 64 (fun _ => 0))), (q57, (oc0 q1 q42 0 0 0)), (q58, (oc9 q1 q42 q59 q60)), (q59, (arJ G 24 (fun _ => 0))), (q60, (arI G 1536 (fun _ => 0))), (q61, (oc4 q62 q66 q67 q68 0 0 0 (-1))), (q62, (oc8 q63 q64 q65)), (q63, (arI G 401 (fun _ => 0))), (q64, (arI G 401 (fun _ => 0))), (q65, (arI G 401 (fun _ => 0))), (q66, (arI G 12 (fun _ => 0))), (q67, (arI G 13 (fun _ => 0))), (q68, (arI G 400 (fun _ => 0))), (q69, (arI G 400 (fun _ => 0))), (q70, (arI G 24 (fun _ => 0))), (q71, (arI G 5 (fun _ => 0)))] hP hD ?_
  clear hP hD
  intro hP hD
  refine W.eq (g2 := F0 m 196 ls []) rfl ?_
  refine lv_aload_n hx hb dX11_init_196 rfl (lv_at hl 0 rfl) ?_
  refine lv_iconst (v := 0) hx hb dX11_init_197 (by decide +kernel) ?_
  refine va_put (D := G.1) (ci := 11) (v := .int 0) (ty := .int) (C := RX11) (T := TX11) (N := 17) hx hb hts inG_X11 tyX11 tyX11_ok nmX11 hown hK hP hD hS 0 rfl rfl 16 (by decide +kernel) (hts _ fl_X11_94) (fun _ h9 => h9) rfl (by decide +kernel) rfl rfl (Nat.le_of_ble_eq_true rfl) dX11_init_198 ?_
  clear hP hD hS
  intro H locs hP hD hS
  refine g5_rs [(a0, (oc11 q1 q14 q41 q42 q47 q49 q57 q58 q61 q69 0 0 (-1) q70 0 q71 0)), (q1, (oc1 0 1000 (-1) (-1) 0 q2 q3 q5 q7 q9 q11 0 q13)), (q2, (arW G 6 (fun _ => none))), (q3, (oc6 6 5 q4 0)), (q4, (arI G 30 (fun _ => 0))), (q5, (oc6 5 24 q6 0)), (q6, (arI G 120 (fun _ => 0))), (q7, (oc6 10 4 q8 0)), (q8, (arI G 40 (fun _ => 0))), (q9, (oc6 8 5 q10 0)), (q10, (arI G 40 (fun _ => 0))), (q11, (oc6 6 6 q12 0)), (q12, (arI G 36 (fun _ => 0))), (q13, (arJ G 24 (fun _ => 0))), (q14, (arH G 2 (va_up (va_up (fun _ => none) 0 (some q15)) 1 (some q28)))), (q15, (oc1 0 1000 (-1) (-1) 0 q16 q17 q19 q21 q23 q25 0 q27)), (q16, (arW G 6 (fun _ => none))), (q17, (oc6 6 5 q18 0)), (q18, (arI G 30 (fun _ => 0))), (q19, (oc6 5 24 q20 0)), (q20, (arI G 120 (fun _ => 0))), (q21, (oc6 10 4 q22 0)), (q22, (arI G 40 (fun _ => 0))), (q23, (oc6 8 5 q24 0)), (q24, (arI G 40 (fun _ => 0))), (q25, (oc6 6 6 q26 0)), (q26, (arI G 36 (fun _ => 0))), (q27, (arJ G 24 (fun _ => 0))), (q28, (oc1 0 1000 (-1) (-1) 0 q29 q30 q32 q34 q36 q38 0 q40)), (q29, (arW G 6 (fun _ => none))), (q30, (oc6 6 5 q31 0)), (q31, (arI G 30 (fun _ => 0))), (q32, (oc6 5 24 q33 0)), (q33, (arI G 120 (fun _ => 0))), (q34, (oc6 10 4 q35 0)), (q35, (arI G 40 (fun _ => 0))), (q36, (oc6 8 5 q37 0)), (q37, (arI G 40 (fun _ => 0))), (q38, (oc6 6 6 q39 0)), (q39, (arI G 36 (fun _ => 0))), (q40, (arJ G 24 (fun _ => 0))), (q41, (arZ G 2 (fun _ => 0))), (q42, (oc5 q1 q43 q46 0 0 0 0 0 0 0 0 0 0)), (q43, (oc2 q44 q45)), (q44, (arI G 8 (fun _ => 0))), (q45, (arJ G 50 (fun _ => 0))), (q46, (arI G 200 (fun _ => 0))), (q47, (oc10 q1 q42 q48)), (q48, (arJ G 24 (fun _ => 0))), (q49, (oc7 q1 q42 q50 q51 0 q52 q53 q54 q55 q56)), (q50, (arJ G 24 (fun _ => 0))), (q51, (arI G 1536 (fun _ => 0))), (q52, (arJ G 2048 (fun _ => 0))), (q53, (arJ G 2048 (fun _ => 0))), (q54, (arI G 1536 (fun _ => 0))), (q55, (arI G 64 (fun _ => 0))), (q56, (arI G 64 (fun _ => 0))), (q57, (oc0 q1 q42 0 0 0)), (q58, (oc9 q1 q42 q59 q60)), (q59, (arJ G 24 (fun _ => 0))), (q60, (arI G 1536 (fun _ => 0))), (q61, (oc4 q62 q66 q67 q68 0 0 0 (-1))), (q62, (oc8 q63 q64 q65)), (q63, (arI G 401 (fun _ => 0))), (q64, (arI G 401 (fun _ => 0))), (q65, (arI G 401 (fun _ => 0))), (q66, (arI G 12 (fun _ => 0))), (q67, (arI G 13 (fun _ => 0))), (q68, (arI G 400 (fun _ => 0))), (q69, (arI G 400 (fun _ => 0))), (q70, (arI G 24 (fun _ => 0))), (q71, (arI G 5 (fun _ => 0)))] hP hD ?_
  clear hP hD
  intro hP hD
  exact W.vret hx hb hr (fun t ht hW => ⟨⟨[(a0, (oc11 q1 q14 q41 q42 q47 q49 q57 q58 q61 q69 0 0 (-1) q70 0 q71 0)), (q1, (oc1 0 1000 (-1) (-1) 0 q2 q3 q5 q7 q9 q11 0 q13)), (q2, (arW G 6 (fun _ => none))), (q3, (oc6 6 5 q4 0)), (q4, (arI G 30 (fun _ => 0))), (q5, (oc6 5 24 q6 0)), (q6, (arI G 120 (fun _ => 0))), (q7, (oc6 10 4 q8 0)), (q8, (arI G 40 (fun _ => 0))), (q9, (oc6 8 5 q10 0)), (q10, (arI G 40 (fun _ => 0))), (q11, (oc6 6 6 q12 0)), (q12, (arI G 36 (fun _ => 0))), (q13, (arJ G 24 (fun _ => 0))), (q14, (arH G 2 (va_up (va_up (fun _ => none) 0 (some q15)) 1 (some q28)))), (q15, (oc1 0 1000 (-1) (-1) 0 q16 q17 q19 q21 q23 q25 0 q27)), (q16, (arW G 6 (fun _ => none))), (q17, (oc6 6 5 q18 0)), (q18, (arI G 30 (fun _ => 0))), (q19, (oc6 5 24 q20 0)), (q20, (arI G 120 (fun _ => 0))), (q21, (oc6 10 4 q22 0)), (q22, (arI G 40 (fun _ => 0))), (q23, (oc6 8 5 q24 0)), (q24, (arI G 40 (fun _ => 0))), (q25, (oc6 6 6 q26 0)), (q26, (arI G 36 (fun _ => 0))), (q27, (arJ G 24 (fun _ => 0))), (q28, (oc1 0 1000 (-1) (-1) 0 q29 q30 q32 q34 q36 q38 0 q40)), (q29, (arW G 6 (fun _ => none))), (q30, (oc6 6 5 q31 0)), (q31, (arI G 30 (fun _ => 0))), (q32, (oc6 5 24 q33 0)), (q33, (arI G 120 (fun _ => 0))), (q34, (oc6 10 4 q35 0)), (q35, (arI G 40 (fun _ => 0))), (q36, (oc6 8 5 q37 0)), (q37, (arI G 40 (fun _ => 0))), (q38, (oc6 6 6 q39 0)), (q39, (arI G 36 (fun _ => 0))), (q40, (arJ G 24 (fun _ => 0))), (q41, (arZ G 2 (fun _ => 0))), (q42, (oc5 q1 q43 q46 0 0 0 0 0 0 0 0 0 0)), (q43, (oc2 q44 q45)), (q44, (arI G 8 (fun _ => 0))), (q45, (arJ G 50 (fun _ => 0))), (q46, (arI G 200 (fun _ => 0))), (q47, (oc10 q1 q42 q48)), (q48, (arJ G 24 (fun _ => 0))), (q49, (oc7 q1 q42 q50 q51 0 q52 q53 q54 q55 q56)), (q50, (arJ G 24 (fun _ => 0))), (q51, (arI G 1536 (fun _ => 0))), (q52, (arJ G 2048 (fun _ => 0))), (q53, (arJ G 2048 (fun _ => 0))), (q54, (arI G 1536 (fun _ => 0))), (q55, (arI G 64 (fun _ => 0))), (q56, (arI G 64 (fun _ => 0))), (q57, (oc0 q1 q42 0 0 0)), (q58, (oc9 q1 q42 q59 q60)), (q59, (arJ G 24 (fun _ => 0))), (q60, (arI G 1536 (fun _ => 0))), (q61, (oc4 q62 q66 q67 q68 0 0 0 (-1))), (q62, (oc8 q63 q64 q65)), (q63, (arI G 401 (fun _ => 0))), (q64, (arI G 401 (fun _ => 0))), (q65, (arI G 401 (fun _ => 0))), (q66, (arI G 12 (fun _ => 0))), (q67, (arI G 13 (fun _ => 0))), (q68, (arI G 400 (fun _ => 0))), (q69, (arI G 400 (fun _ => 0))), (q70, (arI G 24 (fun _ => 0))), (q71, (arI G 5 (fun _ => 0)))], rfl, ⟨q1, q2, q3, q4, q5, q6, q7, q8, q9, q10, q11, q12, q13, q14, q15, q16, q17, q18, q19, q20, q21, q22, q23, q24, q25, q26, q27, q28, q29, q30, q31, q32, q33, q34, q35, q36, q37, q38, q39, q40, q41, q42, q43, q44, q45, q46, q47, q48, q49, q50, q51, q52, q53, q54, q55, q56, q57, q58, q59, q60, q61, q62, q63, q64, q65, q66, q67, q68, q69, q70, q71, rfl⟩, by rw [ht]; exact hP, hD⟩, hS.F ht⟩) hS.2.2 dX11_init_201
theorem cd_X11_init : Cond.code yX11_init cX11_init 1 none ∈ tblG := tg 115 (by decide +kernel) (by decide +kernel)
theorem gW_X11_init : GoodIn tblG (wsG yX11_init cX11_init 1 none) := tgi cd_X11_init
theorem ml_L_9 : Cond.methodLink RL 9 yX11_init ∈ tblG := tg 113 (by decide +kernel) (by decide +kernel)
theorem im_X11_init : Cond.instanceMethod yX11_init ∈ tblG := tg 114 (by decide +kernel) (by decide +kernel)
theorem hs_X11_init : yX11_init.cls ≠ "java/lang/invoke/MethodHandle" ∧ yX11_init.cls ≠ "java/lang/invoke/VarHandle" ∧ (parseMethodDescriptor yX11_init.desc).map (fun d => d.parameters.length) = some 0 := by decide +kernel
theorem cl_L_10 : Cond.classLink RL 10 RX12 ∈ tblG := tg 1184 (by decide +kernel) (by decide +kernel)
theorem oi_X12_1 : Cond.methodLink RX12 1 objectInit ∈ tblG := tg 1189 (by decide +kernel) (by decide +kernel)
theorem kl_X12_45 : Cond.constantLong RX12 45 7734899 ∈ tblG := tg 1190 (by decide +kernel) (by decide +kernel)
theorem kl_X12_49 : Cond.constantLong RX12 49 25 ∈ tblG := tg 1192 (by decide +kernel) (by decide +kernel)
theorem kl_X12_51 : Cond.constantLong RX12 51 278194 ∈ tblG := tg 1193 (by decide +kernel) (by decide +kernel)
theorem kl_X12_53 : Cond.constantLong RX12 53 23609 ∈ tblG := tg 1194 (by decide +kernel) (by decide +kernel)
theorem kl_X12_55 : Cond.constantLong RX12 55 81049 ∈ tblG := tg 1195 (by decide +kernel) (by decide +kernel)
theorem kl_X12_57 : Cond.constantLong RX12 57 20583955 ∈ tblG := tg 1196 (by decide +kernel) (by decide +kernel)
theorem kl_X12_59 : Cond.constantLong RX12 59 86285588 ∈ tblG := tg 1197 (by decide +kernel) (by decide +kernel)
theorem kl_X12_65 : Cond.constantLong RX12 65 394885 ∈ tblG := tg 1198 (by decide +kernel) (by decide +kernel)
theorem kl_X12_67 : Cond.constantLong RX12 67 153204 ∈ tblG := tg 1199 (by decide +kernel) (by decide +kernel)
theorem kl_X12_69 : Cond.constantLong RX12 69 117118547 ∈ tblG := tg 1200 (by decide +kernel) (by decide +kernel)
theorem kl_X12_71 : Cond.constantLong RX12 71 3544114 ∈ tblG := tg 1201 (by decide +kernel) (by decide +kernel)
theorem dgX12_init_0 : ∀ r ∈ ([(0, (.aload_n 0, 1)), (1, (.invokespecial 1, 3)), (4, (.aload_n 0, 1)), (5, (.bipush 7, 2)), (7, (.newarray .int, 2)), (9, (.putfield 7, 3)), (12, (.aload_n 0, 1)), (13, (.sipush 5740, 3)), (16, (.newarray .int, 2)), (18, (.putfield 13, 3)), (21, (.aload_n 0, 1)), (22, (.sipush 11480, 3)), (25, (.newarray .int, 2)), (27, (.putfield 16, 3)), (30, (.aload_n 0, 1)), (31, (.iconst 2, 1)), (32, (.newarray .boolean, 2)), (34, (.putfield 19, 3)), (37, (.aload_n 0, 1)), (38, (.sipush 400, 3)), (41, (.newarray .int, 2)), (43, (.putfield 23, 3)), (46, (.aload_n 0, 1)), (47, (.iconst (-1), 1)), (48, (.putfield 26, 3)), (51, (.aload_n 0, 1)), (52, (.bipush 96, 2)), (54, (.newarray .int, 2)), (56, (.putfield 30, 3)), (59, (.aload_n 0, 1)), (60, (.sipush 400, 3)), (63, (.newarray .int, 2)), (65, (.putfield 33, 3)), (68, (.aload_n 0, 1)), (69, (.sipush 400, 3)), (72, (.newarray .int, 2)), (74, (.putfield 36, 3)), (77, (.aload_n 0, 1)), (78, (.sipush 400, 3)), (81, (.newarray .int, 2))] : List (Nat × (Instr × Nat))), decode cX12_init r.1 = .ok r.2 := by decide +kernel
theorem dX12_init_0 : decode cX12_init 0 = .ok (.aload_n 0, 1) := dgX12_init_0 (0, (.aload_n 0, 1)) (List.mem_of_getElem? (i := 0) rfl)
theorem dX12_init_1 : decode cX12_init 1 = .ok (.invokespecial 1, 3) := dgX12_init_0 (1, (.invokespecial 1, 3)) (List.mem_of_getElem? (i := 1) rfl)
theorem dX12_init_4 : decode cX12_init 4 = .ok (.aload_n 0, 1) := dgX12_init_0 (4, (.aload_n 0, 1)) (List.mem_of_getElem? (i := 2) rfl)
theorem dX12_init_5 : decode cX12_init 5 = .ok (.bipush 7, 2) := dgX12_init_0 (5, (.bipush 7, 2)) (List.mem_of_getElem? (i := 3) rfl)
theorem dX12_init_7 : decode cX12_init 7 = .ok (.newarray .int, 2) := dgX12_init_0 (7, (.newarray .int, 2)) (List.mem_of_getElem? (i := 4) rfl)
theorem dX12_init_9 : decode cX12_init 9 = .ok (.putfield 7, 3) := dgX12_init_0 (9, (.putfield 7, 3)) (List.mem_of_getElem? (i := 5) rfl)
theorem dX12_init_12 : decode cX12_init 12 = .ok (.aload_n 0, 1) := dgX12_init_0 (12, (.aload_n 0, 1)) (List.mem_of_getElem? (i := 6) rfl)
theorem dX12_init_13 : decode cX12_init 13 = .ok (.sipush 5740, 3) := dgX12_init_0 (13, (.sipush 5740, 3)) (List.mem_of_getElem? (i := 7) rfl)
theorem dX12_init_16 : decode cX12_init 16 = .ok (.newarray .int, 2) := dgX12_init_0 (16, (.newarray .int, 2)) (List.mem_of_getElem? (i := 8) rfl)
theorem dX12_init_18 : decode cX12_init 18 = .ok (.putfield 13, 3) := dgX12_init_0 (18, (.putfield 13, 3)) (List.mem_of_getElem? (i := 9) rfl)
theorem dX12_init_21 : decode cX12_init 21 = .ok (.aload_n 0, 1) := dgX12_init_0 (21, (.aload_n 0, 1)) (List.mem_of_getElem? (i := 10) rfl)
theorem dX12_init_22 : decode cX12_init 22 = .ok (.sipush 11480, 3) := dgX12_init_0 (22, (.sipush 11480, 3)) (List.mem_of_getElem? (i := 11) rfl)
theorem dX12_init_25 : decode cX12_init 25 = .ok (.newarray .int, 2) := dgX12_init_0 (25, (.newarray .int, 2)) (List.mem_of_getElem? (i := 12) rfl)
theorem dX12_init_27 : decode cX12_init 27 = .ok (.putfield 16, 3) := dgX12_init_0 (27, (.putfield 16, 3)) (List.mem_of_getElem? (i := 13) rfl)
theorem dX12_init_30 : decode cX12_init 30 = .ok (.aload_n 0, 1) := dgX12_init_0 (30, (.aload_n 0, 1)) (List.mem_of_getElem? (i := 14) rfl)
theorem dX12_init_31 : decode cX12_init 31 = .ok (.iconst 2, 1) := dgX12_init_0 (31, (.iconst 2, 1)) (List.mem_of_getElem? (i := 15) rfl)
theorem dX12_init_32 : decode cX12_init 32 = .ok (.newarray .boolean, 2) := dgX12_init_0 (32, (.newarray .boolean, 2)) (List.mem_of_getElem? (i := 16) rfl)
theorem dX12_init_34 : decode cX12_init 34 = .ok (.putfield 19, 3) := dgX12_init_0 (34, (.putfield 19, 3)) (List.mem_of_getElem? (i := 17) rfl)
theorem dX12_init_37 : decode cX12_init 37 = .ok (.aload_n 0, 1) := dgX12_init_0 (37, (.aload_n 0, 1)) (List.mem_of_getElem? (i := 18) rfl)
theorem dX12_init_38 : decode cX12_init 38 = .ok (.sipush 400, 3) := dgX12_init_0 (38, (.sipush 400, 3)) (List.mem_of_getElem? (i := 19) rfl)
theorem dX12_init_41 : decode cX12_init 41 = .ok (.newarray .int, 2) := dgX12_init_0 (41, (.newarray .int, 2)) (List.mem_of_getElem? (i := 20) rfl)
theorem dX12_init_43 : decode cX12_init 43 = .ok (.putfield 23, 3) := dgX12_init_0 (43, (.putfield 23, 3)) (List.mem_of_getElem? (i := 21) rfl)
theorem dX12_init_46 : decode cX12_init 46 = .ok (.aload_n 0, 1) := dgX12_init_0 (46, (.aload_n 0, 1)) (List.mem_of_getElem? (i := 22) rfl)
theorem dX12_init_47 : decode cX12_init 47 = .ok (.iconst (-1), 1) := dgX12_init_0 (47, (.iconst (-1), 1)) (List.mem_of_getElem? (i := 23) rfl)
theorem dX12_init_48 : decode cX12_init 48 = .ok (.putfield 26, 3) := dgX12_init_0 (48, (.putfield 26, 3)) (List.mem_of_getElem? (i := 24) rfl)
theorem dX12_init_51 : decode cX12_init 51 = .ok (.aload_n 0, 1) := dgX12_init_0 (51, (.aload_n 0, 1)) (List.mem_of_getElem? (i := 25) rfl)
theorem dX12_init_52 : decode cX12_init 52 = .ok (.bipush 96, 2) := dgX12_init_0 (52, (.bipush 96, 2)) (List.mem_of_getElem? (i := 26) rfl)
theorem dX12_init_54 : decode cX12_init 54 = .ok (.newarray .int, 2) := dgX12_init_0 (54, (.newarray .int, 2)) (List.mem_of_getElem? (i := 27) rfl)
theorem dX12_init_56 : decode cX12_init 56 = .ok (.putfield 30, 3) := dgX12_init_0 (56, (.putfield 30, 3)) (List.mem_of_getElem? (i := 28) rfl)
theorem dX12_init_59 : decode cX12_init 59 = .ok (.aload_n 0, 1) := dgX12_init_0 (59, (.aload_n 0, 1)) (List.mem_of_getElem? (i := 29) rfl)
theorem dX12_init_60 : decode cX12_init 60 = .ok (.sipush 400, 3) := dgX12_init_0 (60, (.sipush 400, 3)) (List.mem_of_getElem? (i := 30) rfl)
theorem dX12_init_63 : decode cX12_init 63 = .ok (.newarray .int, 2) := dgX12_init_0 (63, (.newarray .int, 2)) (List.mem_of_getElem? (i := 31) rfl)
theorem dX12_init_65 : decode cX12_init 65 = .ok (.putfield 33, 3) := dgX12_init_0 (65, (.putfield 33, 3)) (List.mem_of_getElem? (i := 32) rfl)
theorem dX12_init_68 : decode cX12_init 68 = .ok (.aload_n 0, 1) := dgX12_init_0 (68, (.aload_n 0, 1)) (List.mem_of_getElem? (i := 33) rfl)
theorem dX12_init_69 : decode cX12_init 69 = .ok (.sipush 400, 3) := dgX12_init_0 (69, (.sipush 400, 3)) (List.mem_of_getElem? (i := 34) rfl)
theorem dX12_init_72 : decode cX12_init 72 = .ok (.newarray .int, 2) := dgX12_init_0 (72, (.newarray .int, 2)) (List.mem_of_getElem? (i := 35) rfl)
theorem dX12_init_74 : decode cX12_init 74 = .ok (.putfield 36, 3) := dgX12_init_0 (74, (.putfield 36, 3)) (List.mem_of_getElem? (i := 36) rfl)
theorem dX12_init_77 : decode cX12_init 77 = .ok (.aload_n 0, 1) := dgX12_init_0 (77, (.aload_n 0, 1)) (List.mem_of_getElem? (i := 37) rfl)
theorem dX12_init_78 : decode cX12_init 78 = .ok (.sipush 400, 3) := dgX12_init_0 (78, (.sipush 400, 3)) (List.mem_of_getElem? (i := 38) rfl)
theorem dX12_init_81 : decode cX12_init 81 = .ok (.newarray .int, 2) := dgX12_init_0 (81, (.newarray .int, 2)) (List.mem_of_getElem? (i := 39) rfl)
theorem dgX12_init_1 : ∀ r ∈ ([(83, (.putfield 39, 3)), (86, (.aload_n 0, 1)), (87, (.sipush 400, 3)), (90, (.newarray .int, 2)), (92, (.putfield 42, 3)), (95, (.aload_n 0, 1)), (96, (.bipush 8, 2)), (98, (.newarray .long, 2)), (100, (.dup, 1)), (101, (.iconst 0, 1)), (102, (.ldc2_w 45, 3)), (105, (.lastore, 1)), (106, (.dup, 1)), (107, (.iconst 1, 1)), (108, (.ldc2_w 47, 3)), (111, (.lastore, 1)), (112, (.dup, 1)), (113, (.iconst 2, 1)), (114, (.ldc2_w 49, 3)), (117, (.lastore, 1)), (118, (.dup, 1)), (119, (.iconst 3, 1)), (120, (.ldc2_w 51, 3)), (123, (.lastore, 1)), (124, (.dup, 1)), (125, (.iconst 4, 1)), (126, (.ldc2_w 53, 3)), (129, (.lastore, 1)), (130, (.dup, 1)), (131, (.iconst 5, 1)), (132, (.ldc2_w 55, 3)), (135, (.lastore, 1)), (136, (.dup, 1)), (137, (.bipush 6, 2)), (139, (.ldc2_w 57, 3)), (142, (.lastore, 1)), (143, (.dup, 1)), (144, (.bipush 7, 2)), (146, (.ldc2_w 59, 3)), (149, (.lastore, 1))] : List (Nat × (Instr × Nat))), decode cX12_init r.1 = .ok r.2 := by decide +kernel
theorem dX12_init_83 : decode cX12_init 83 = .ok (.putfield 39, 3) := dgX12_init_1 (83, (.putfield 39, 3)) (List.mem_of_getElem? (i := 0) rfl)
theorem dX12_init_86 : decode cX12_init 86 = .ok (.aload_n 0, 1) := dgX12_init_1 (86, (.aload_n 0, 1)) (List.mem_of_getElem? (i := 1) rfl)
theorem dX12_init_87 : decode cX12_init 87 = .ok (.sipush 400, 3) := dgX12_init_1 (87, (.sipush 400, 3)) (List.mem_of_getElem? (i := 2) rfl)
theorem dX12_init_90 : decode cX12_init 90 = .ok (.newarray .int, 2) := dgX12_init_1 (90, (.newarray .int, 2)) (List.mem_of_getElem? (i := 3) rfl)
theorem dX12_init_92 : decode cX12_init 92 = .ok (.putfield 42, 3) := dgX12_init_1 (92, (.putfield 42, 3)) (List.mem_of_getElem? (i := 4) rfl)
theorem dX12_init_95 : decode cX12_init 95 = .ok (.aload_n 0, 1) := dgX12_init_1 (95, (.aload_n 0, 1)) (List.mem_of_getElem? (i := 5) rfl)
theorem dX12_init_96 : decode cX12_init 96 = .ok (.bipush 8, 2) := dgX12_init_1 (96, (.bipush 8, 2)) (List.mem_of_getElem? (i := 6) rfl)
theorem dX12_init_98 : decode cX12_init 98 = .ok (.newarray .long, 2) := dgX12_init_1 (98, (.newarray .long, 2)) (List.mem_of_getElem? (i := 7) rfl)
theorem dX12_init_100 : decode cX12_init 100 = .ok (.dup, 1) := dgX12_init_1 (100, (.dup, 1)) (List.mem_of_getElem? (i := 8) rfl)
theorem dX12_init_101 : decode cX12_init 101 = .ok (.iconst 0, 1) := dgX12_init_1 (101, (.iconst 0, 1)) (List.mem_of_getElem? (i := 9) rfl)
theorem dX12_init_102 : decode cX12_init 102 = .ok (.ldc2_w 45, 3) := dgX12_init_1 (102, (.ldc2_w 45, 3)) (List.mem_of_getElem? (i := 10) rfl)
theorem dX12_init_105 : decode cX12_init 105 = .ok (.lastore, 1) := dgX12_init_1 (105, (.lastore, 1)) (List.mem_of_getElem? (i := 11) rfl)
theorem dX12_init_106 : decode cX12_init 106 = .ok (.dup, 1) := dgX12_init_1 (106, (.dup, 1)) (List.mem_of_getElem? (i := 12) rfl)
theorem dX12_init_107 : decode cX12_init 107 = .ok (.iconst 1, 1) := dgX12_init_1 (107, (.iconst 1, 1)) (List.mem_of_getElem? (i := 13) rfl)
theorem dX12_init_108 : decode cX12_init 108 = .ok (.ldc2_w 47, 3) := dgX12_init_1 (108, (.ldc2_w 47, 3)) (List.mem_of_getElem? (i := 14) rfl)
theorem dX12_init_111 : decode cX12_init 111 = .ok (.lastore, 1) := dgX12_init_1 (111, (.lastore, 1)) (List.mem_of_getElem? (i := 15) rfl)
theorem dX12_init_112 : decode cX12_init 112 = .ok (.dup, 1) := dgX12_init_1 (112, (.dup, 1)) (List.mem_of_getElem? (i := 16) rfl)
theorem dX12_init_113 : decode cX12_init 113 = .ok (.iconst 2, 1) := dgX12_init_1 (113, (.iconst 2, 1)) (List.mem_of_getElem? (i := 17) rfl)
theorem dX12_init_114 : decode cX12_init 114 = .ok (.ldc2_w 49, 3) := dgX12_init_1 (114, (.ldc2_w 49, 3)) (List.mem_of_getElem? (i := 18) rfl)
theorem dX12_init_117 : decode cX12_init 117 = .ok (.lastore, 1) := dgX12_init_1 (117, (.lastore, 1)) (List.mem_of_getElem? (i := 19) rfl)
theorem dX12_init_118 : decode cX12_init 118 = .ok (.dup, 1) := dgX12_init_1 (118, (.dup, 1)) (List.mem_of_getElem? (i := 20) rfl)
theorem dX12_init_119 : decode cX12_init 119 = .ok (.iconst 3, 1) := dgX12_init_1 (119, (.iconst 3, 1)) (List.mem_of_getElem? (i := 21) rfl)
theorem dX12_init_120 : decode cX12_init 120 = .ok (.ldc2_w 51, 3) := dgX12_init_1 (120, (.ldc2_w 51, 3)) (List.mem_of_getElem? (i := 22) rfl)
theorem dX12_init_123 : decode cX12_init 123 = .ok (.lastore, 1) := dgX12_init_1 (123, (.lastore, 1)) (List.mem_of_getElem? (i := 23) rfl)
theorem dX12_init_124 : decode cX12_init 124 = .ok (.dup, 1) := dgX12_init_1 (124, (.dup, 1)) (List.mem_of_getElem? (i := 24) rfl)
theorem dX12_init_125 : decode cX12_init 125 = .ok (.iconst 4, 1) := dgX12_init_1 (125, (.iconst 4, 1)) (List.mem_of_getElem? (i := 25) rfl)
theorem dX12_init_126 : decode cX12_init 126 = .ok (.ldc2_w 53, 3) := dgX12_init_1 (126, (.ldc2_w 53, 3)) (List.mem_of_getElem? (i := 26) rfl)
theorem dX12_init_129 : decode cX12_init 129 = .ok (.lastore, 1) := dgX12_init_1 (129, (.lastore, 1)) (List.mem_of_getElem? (i := 27) rfl)
theorem dX12_init_130 : decode cX12_init 130 = .ok (.dup, 1) := dgX12_init_1 (130, (.dup, 1)) (List.mem_of_getElem? (i := 28) rfl)
theorem dX12_init_131 : decode cX12_init 131 = .ok (.iconst 5, 1) := dgX12_init_1 (131, (.iconst 5, 1)) (List.mem_of_getElem? (i := 29) rfl)
theorem dX12_init_132 : decode cX12_init 132 = .ok (.ldc2_w 55, 3) := dgX12_init_1 (132, (.ldc2_w 55, 3)) (List.mem_of_getElem? (i := 30) rfl)
theorem dX12_init_135 : decode cX12_init 135 = .ok (.lastore, 1) := dgX12_init_1 (135, (.lastore, 1)) (List.mem_of_getElem? (i := 31) rfl)
theorem dX12_init_136 : decode cX12_init 136 = .ok (.dup, 1) := dgX12_init_1 (136, (.dup, 1)) (List.mem_of_getElem? (i := 32) rfl)
theorem dX12_init_137 : decode cX12_init 137 = .ok (.bipush 6, 2) := dgX12_init_1 (137, (.bipush 6, 2)) (List.mem_of_getElem? (i := 33) rfl)
theorem dX12_init_139 : decode cX12_init 139 = .ok (.ldc2_w 57, 3) := dgX12_init_1 (139, (.ldc2_w 57, 3)) (List.mem_of_getElem? (i := 34) rfl)
theorem dX12_init_142 : decode cX12_init 142 = .ok (.lastore, 1) := dgX12_init_1 (142, (.lastore, 1)) (List.mem_of_getElem? (i := 35) rfl)
theorem dX12_init_143 : decode cX12_init 143 = .ok (.dup, 1) := dgX12_init_1 (143, (.dup, 1)) (List.mem_of_getElem? (i := 36) rfl)
theorem dX12_init_144 : decode cX12_init 144 = .ok (.bipush 7, 2) := dgX12_init_1 (144, (.bipush 7, 2)) (List.mem_of_getElem? (i := 37) rfl)
theorem dX12_init_146 : decode cX12_init 146 = .ok (.ldc2_w 59, 3) := dgX12_init_1 (146, (.ldc2_w 59, 3)) (List.mem_of_getElem? (i := 38) rfl)
theorem dX12_init_149 : decode cX12_init 149 = .ok (.lastore, 1) := dgX12_init_1 (149, (.lastore, 1)) (List.mem_of_getElem? (i := 39) rfl)
theorem dgX12_init_2 : ∀ r ∈ ([(150, (.putfield 61, 3)), (153, (.aload_n 0, 1)), (154, (.iconst 4, 1)), (155, (.newarray .long, 2)), (157, (.dup, 1)), (158, (.iconst 0, 1)), (159, (.ldc2_w 65, 3)), (162, (.lastore, 1)), (163, (.dup, 1)), (164, (.iconst 1, 1)), (165, (.ldc2_w 67, 3)), (168, (.lastore, 1)), (169, (.dup, 1)), (170, (.iconst 2, 1)), (171, (.ldc2_w 69, 3)), (174, (.lastore, 1)), (175, (.dup, 1)), (176, (.iconst 3, 1)), (177, (.ldc2_w 71, 3)), (180, (.lastore, 1)), (181, (.putfield 73, 3)), (184, (.aload_n 0, 1)), (185, (.bipush 13, 2)), (187, (.newarray .long, 2)), (189, (.putfield 76, 3)), (192, (.aload_n 0, 1)), (193, (.sipush 400, 3)), (196, (.newarray .long, 2)), (198, (.putfield 79, 3)), (201, (.aload_n 0, 1)), (202, (.sipush 200, 3)), (205, (.newarray .int, 2)), (207, (.putfield 82, 3)), (210, (.aload_n 0, 1)), (211, (.sipush 1536, 3)), (214, (.newarray .boolean, 2)), (216, (.putfield 85, 3)), (219, (.aload_n 0, 1)), (220, (.ldc 88, 2)), (222, (.newarray .long, 2))] : List (Nat × (Instr × Nat))), decode cX12_init r.1 = .ok r.2 := by decide +kernel
theorem dX12_init_150 : decode cX12_init 150 = .ok (.putfield 61, 3) := dgX12_init_2 (150, (.putfield 61, 3)) (List.mem_of_getElem? (i := 0) rfl)
theorem dX12_init_153 : decode cX12_init 153 = .ok (.aload_n 0, 1) := dgX12_init_2 (153, (.aload_n 0, 1)) (List.mem_of_getElem? (i := 1) rfl)
theorem dX12_init_154 : decode cX12_init 154 = .ok (.iconst 4, 1) := dgX12_init_2 (154, (.iconst 4, 1)) (List.mem_of_getElem? (i := 2) rfl)
theorem dX12_init_155 : decode cX12_init 155 = .ok (.newarray .long, 2) := dgX12_init_2 (155, (.newarray .long, 2)) (List.mem_of_getElem? (i := 3) rfl)
theorem dX12_init_157 : decode cX12_init 157 = .ok (.dup, 1) := dgX12_init_2 (157, (.dup, 1)) (List.mem_of_getElem? (i := 4) rfl)
theorem dX12_init_158 : decode cX12_init 158 = .ok (.iconst 0, 1) := dgX12_init_2 (158, (.iconst 0, 1)) (List.mem_of_getElem? (i := 5) rfl)
theorem dX12_init_159 : decode cX12_init 159 = .ok (.ldc2_w 65, 3) := dgX12_init_2 (159, (.ldc2_w 65, 3)) (List.mem_of_getElem? (i := 6) rfl)
theorem dX12_init_162 : decode cX12_init 162 = .ok (.lastore, 1) := dgX12_init_2 (162, (.lastore, 1)) (List.mem_of_getElem? (i := 7) rfl)
theorem dX12_init_163 : decode cX12_init 163 = .ok (.dup, 1) := dgX12_init_2 (163, (.dup, 1)) (List.mem_of_getElem? (i := 8) rfl)
theorem dX12_init_164 : decode cX12_init 164 = .ok (.iconst 1, 1) := dgX12_init_2 (164, (.iconst 1, 1)) (List.mem_of_getElem? (i := 9) rfl)
theorem dX12_init_165 : decode cX12_init 165 = .ok (.ldc2_w 67, 3) := dgX12_init_2 (165, (.ldc2_w 67, 3)) (List.mem_of_getElem? (i := 10) rfl)
theorem dX12_init_168 : decode cX12_init 168 = .ok (.lastore, 1) := dgX12_init_2 (168, (.lastore, 1)) (List.mem_of_getElem? (i := 11) rfl)
theorem dX12_init_169 : decode cX12_init 169 = .ok (.dup, 1) := dgX12_init_2 (169, (.dup, 1)) (List.mem_of_getElem? (i := 12) rfl)
theorem dX12_init_170 : decode cX12_init 170 = .ok (.iconst 2, 1) := dgX12_init_2 (170, (.iconst 2, 1)) (List.mem_of_getElem? (i := 13) rfl)
theorem dX12_init_171 : decode cX12_init 171 = .ok (.ldc2_w 69, 3) := dgX12_init_2 (171, (.ldc2_w 69, 3)) (List.mem_of_getElem? (i := 14) rfl)
theorem dX12_init_174 : decode cX12_init 174 = .ok (.lastore, 1) := dgX12_init_2 (174, (.lastore, 1)) (List.mem_of_getElem? (i := 15) rfl)
theorem dX12_init_175 : decode cX12_init 175 = .ok (.dup, 1) := dgX12_init_2 (175, (.dup, 1)) (List.mem_of_getElem? (i := 16) rfl)
theorem dX12_init_176 : decode cX12_init 176 = .ok (.iconst 3, 1) := dgX12_init_2 (176, (.iconst 3, 1)) (List.mem_of_getElem? (i := 17) rfl)
theorem dX12_init_177 : decode cX12_init 177 = .ok (.ldc2_w 71, 3) := dgX12_init_2 (177, (.ldc2_w 71, 3)) (List.mem_of_getElem? (i := 18) rfl)
theorem dX12_init_180 : decode cX12_init 180 = .ok (.lastore, 1) := dgX12_init_2 (180, (.lastore, 1)) (List.mem_of_getElem? (i := 19) rfl)
theorem dX12_init_181 : decode cX12_init 181 = .ok (.putfield 73, 3) := dgX12_init_2 (181, (.putfield 73, 3)) (List.mem_of_getElem? (i := 20) rfl)
theorem dX12_init_184 : decode cX12_init 184 = .ok (.aload_n 0, 1) := dgX12_init_2 (184, (.aload_n 0, 1)) (List.mem_of_getElem? (i := 21) rfl)
theorem dX12_init_185 : decode cX12_init 185 = .ok (.bipush 13, 2) := dgX12_init_2 (185, (.bipush 13, 2)) (List.mem_of_getElem? (i := 22) rfl)
theorem dX12_init_187 : decode cX12_init 187 = .ok (.newarray .long, 2) := dgX12_init_2 (187, (.newarray .long, 2)) (List.mem_of_getElem? (i := 23) rfl)
theorem dX12_init_189 : decode cX12_init 189 = .ok (.putfield 76, 3) := dgX12_init_2 (189, (.putfield 76, 3)) (List.mem_of_getElem? (i := 24) rfl)
theorem dX12_init_192 : decode cX12_init 192 = .ok (.aload_n 0, 1) := dgX12_init_2 (192, (.aload_n 0, 1)) (List.mem_of_getElem? (i := 25) rfl)
theorem dX12_init_193 : decode cX12_init 193 = .ok (.sipush 400, 3) := dgX12_init_2 (193, (.sipush 400, 3)) (List.mem_of_getElem? (i := 26) rfl)
theorem dX12_init_196 : decode cX12_init 196 = .ok (.newarray .long, 2) := dgX12_init_2 (196, (.newarray .long, 2)) (List.mem_of_getElem? (i := 27) rfl)
theorem dX12_init_198 : decode cX12_init 198 = .ok (.putfield 79, 3) := dgX12_init_2 (198, (.putfield 79, 3)) (List.mem_of_getElem? (i := 28) rfl)
theorem dX12_init_201 : decode cX12_init 201 = .ok (.aload_n 0, 1) := dgX12_init_2 (201, (.aload_n 0, 1)) (List.mem_of_getElem? (i := 29) rfl)
theorem dX12_init_202 : decode cX12_init 202 = .ok (.sipush 200, 3) := dgX12_init_2 (202, (.sipush 200, 3)) (List.mem_of_getElem? (i := 30) rfl)
theorem dX12_init_205 : decode cX12_init 205 = .ok (.newarray .int, 2) := dgX12_init_2 (205, (.newarray .int, 2)) (List.mem_of_getElem? (i := 31) rfl)
theorem dX12_init_207 : decode cX12_init 207 = .ok (.putfield 82, 3) := dgX12_init_2 (207, (.putfield 82, 3)) (List.mem_of_getElem? (i := 32) rfl)
theorem dX12_init_210 : decode cX12_init 210 = .ok (.aload_n 0, 1) := dgX12_init_2 (210, (.aload_n 0, 1)) (List.mem_of_getElem? (i := 33) rfl)
theorem dX12_init_211 : decode cX12_init 211 = .ok (.sipush 1536, 3) := dgX12_init_2 (211, (.sipush 1536, 3)) (List.mem_of_getElem? (i := 34) rfl)
theorem dX12_init_214 : decode cX12_init 214 = .ok (.newarray .boolean, 2) := dgX12_init_2 (214, (.newarray .boolean, 2)) (List.mem_of_getElem? (i := 35) rfl)
theorem dX12_init_216 : decode cX12_init 216 = .ok (.putfield 85, 3) := dgX12_init_2 (216, (.putfield 85, 3)) (List.mem_of_getElem? (i := 36) rfl)
theorem dX12_init_219 : decode cX12_init 219 = .ok (.aload_n 0, 1) := dgX12_init_2 (219, (.aload_n 0, 1)) (List.mem_of_getElem? (i := 37) rfl)
theorem dX12_init_220 : decode cX12_init 220 = .ok (.ldc 88, 2) := dgX12_init_2 (220, (.ldc 88, 2)) (List.mem_of_getElem? (i := 38) rfl)
theorem dX12_init_222 : decode cX12_init 222 = .ok (.newarray .long, 2) := dgX12_init_2 (222, (.newarray .long, 2)) (List.mem_of_getElem? (i := 39) rfl)
theorem dgX12_init_3 : ∀ r ∈ ([(224, (.putfield 89, 3)), (227, (.aload_n 0, 1)), (228, (.ldc 88, 2)), (230, (.newarray .long, 2)), (232, (.putfield 92, 3)), (235, (.aload_n 0, 1)), (236, (.sipush 1536, 3)), (239, (.newarray .int, 2)), (241, (.putfield 95, 3)), (244, (.aload_n 0, 1)), (245, (.sipush 1536, 3)), (248, (.newarray .boolean, 2)), (250, (.putfield 98, 3)), (253, (.aload_n 0, 1)), (254, (.sipush 1536, 3)), (257, (.newarray .boolean, 2)), (259, (.putfield 101, 3)), (262, (.aload_n 0, 1)), (263, (.bipush 24, 2)), (265, (.newarray .int, 2)), (267, (.putfield 104, 3)), (270, (.aload_n 0, 1)), (271, (.getfield 13, 3)), (274, (.iconst 3, 1)), (275, (.iconst (-1), 1)), (276, (.iastore, 1)), (277, (.aload_n 0, 1)), (278, (.getfield 13, 3)), (281, (.iconst 4, 1)), (282, (.sipush 1000, 3)), (285, (.iastore, 1)), (286, (.aload_n 0, 1)), (287, (.getfield 13, 3)), (290, (.bipush 6, 2)), (292, (.iconst (-1), 1)), (293, (.iastore, 1)), (294, (.return_, 1))] : List (Nat × (Instr × Nat))), decode cX12_init r.1 = .ok r.2 := by decide +kernel
theorem dX12_init_224 : decode cX12_init 224 = .ok (.putfield 89, 3) := dgX12_init_3 (224, (.putfield 89, 3)) (List.mem_of_getElem? (i := 0) rfl)
theorem dX12_init_227 : decode cX12_init 227 = .ok (.aload_n 0, 1) := dgX12_init_3 (227, (.aload_n 0, 1)) (List.mem_of_getElem? (i := 1) rfl)
theorem dX12_init_228 : decode cX12_init 228 = .ok (.ldc 88, 2) := dgX12_init_3 (228, (.ldc 88, 2)) (List.mem_of_getElem? (i := 2) rfl)
theorem dX12_init_230 : decode cX12_init 230 = .ok (.newarray .long, 2) := dgX12_init_3 (230, (.newarray .long, 2)) (List.mem_of_getElem? (i := 3) rfl)
theorem dX12_init_232 : decode cX12_init 232 = .ok (.putfield 92, 3) := dgX12_init_3 (232, (.putfield 92, 3)) (List.mem_of_getElem? (i := 4) rfl)
theorem dX12_init_235 : decode cX12_init 235 = .ok (.aload_n 0, 1) := dgX12_init_3 (235, (.aload_n 0, 1)) (List.mem_of_getElem? (i := 5) rfl)
theorem dX12_init_236 : decode cX12_init 236 = .ok (.sipush 1536, 3) := dgX12_init_3 (236, (.sipush 1536, 3)) (List.mem_of_getElem? (i := 6) rfl)
theorem dX12_init_239 : decode cX12_init 239 = .ok (.newarray .int, 2) := dgX12_init_3 (239, (.newarray .int, 2)) (List.mem_of_getElem? (i := 7) rfl)
theorem dX12_init_241 : decode cX12_init 241 = .ok (.putfield 95, 3) := dgX12_init_3 (241, (.putfield 95, 3)) (List.mem_of_getElem? (i := 8) rfl)
theorem dX12_init_244 : decode cX12_init 244 = .ok (.aload_n 0, 1) := dgX12_init_3 (244, (.aload_n 0, 1)) (List.mem_of_getElem? (i := 9) rfl)
theorem dX12_init_245 : decode cX12_init 245 = .ok (.sipush 1536, 3) := dgX12_init_3 (245, (.sipush 1536, 3)) (List.mem_of_getElem? (i := 10) rfl)
theorem dX12_init_248 : decode cX12_init 248 = .ok (.newarray .boolean, 2) := dgX12_init_3 (248, (.newarray .boolean, 2)) (List.mem_of_getElem? (i := 11) rfl)
theorem dX12_init_250 : decode cX12_init 250 = .ok (.putfield 98, 3) := dgX12_init_3 (250, (.putfield 98, 3)) (List.mem_of_getElem? (i := 12) rfl)
theorem dX12_init_253 : decode cX12_init 253 = .ok (.aload_n 0, 1) := dgX12_init_3 (253, (.aload_n 0, 1)) (List.mem_of_getElem? (i := 13) rfl)
theorem dX12_init_254 : decode cX12_init 254 = .ok (.sipush 1536, 3) := dgX12_init_3 (254, (.sipush 1536, 3)) (List.mem_of_getElem? (i := 14) rfl)
theorem dX12_init_257 : decode cX12_init 257 = .ok (.newarray .boolean, 2) := dgX12_init_3 (257, (.newarray .boolean, 2)) (List.mem_of_getElem? (i := 15) rfl)
theorem dX12_init_259 : decode cX12_init 259 = .ok (.putfield 101, 3) := dgX12_init_3 (259, (.putfield 101, 3)) (List.mem_of_getElem? (i := 16) rfl)
theorem dX12_init_262 : decode cX12_init 262 = .ok (.aload_n 0, 1) := dgX12_init_3 (262, (.aload_n 0, 1)) (List.mem_of_getElem? (i := 17) rfl)
theorem dX12_init_263 : decode cX12_init 263 = .ok (.bipush 24, 2) := dgX12_init_3 (263, (.bipush 24, 2)) (List.mem_of_getElem? (i := 18) rfl)
theorem dX12_init_265 : decode cX12_init 265 = .ok (.newarray .int, 2) := dgX12_init_3 (265, (.newarray .int, 2)) (List.mem_of_getElem? (i := 19) rfl)
theorem dX12_init_267 : decode cX12_init 267 = .ok (.putfield 104, 3) := dgX12_init_3 (267, (.putfield 104, 3)) (List.mem_of_getElem? (i := 20) rfl)
theorem dX12_init_270 : decode cX12_init 270 = .ok (.aload_n 0, 1) := dgX12_init_3 (270, (.aload_n 0, 1)) (List.mem_of_getElem? (i := 21) rfl)
theorem dX12_init_271 : decode cX12_init 271 = .ok (.getfield 13, 3) := dgX12_init_3 (271, (.getfield 13, 3)) (List.mem_of_getElem? (i := 22) rfl)
theorem dX12_init_274 : decode cX12_init 274 = .ok (.iconst 3, 1) := dgX12_init_3 (274, (.iconst 3, 1)) (List.mem_of_getElem? (i := 23) rfl)
theorem dX12_init_275 : decode cX12_init 275 = .ok (.iconst (-1), 1) := dgX12_init_3 (275, (.iconst (-1), 1)) (List.mem_of_getElem? (i := 24) rfl)
theorem dX12_init_276 : decode cX12_init 276 = .ok (.iastore, 1) := dgX12_init_3 (276, (.iastore, 1)) (List.mem_of_getElem? (i := 25) rfl)
theorem dX12_init_277 : decode cX12_init 277 = .ok (.aload_n 0, 1) := dgX12_init_3 (277, (.aload_n 0, 1)) (List.mem_of_getElem? (i := 26) rfl)
theorem dX12_init_278 : decode cX12_init 278 = .ok (.getfield 13, 3) := dgX12_init_3 (278, (.getfield 13, 3)) (List.mem_of_getElem? (i := 27) rfl)
theorem dX12_init_281 : decode cX12_init 281 = .ok (.iconst 4, 1) := dgX12_init_3 (281, (.iconst 4, 1)) (List.mem_of_getElem? (i := 28) rfl)
theorem dX12_init_282 : decode cX12_init 282 = .ok (.sipush 1000, 3) := dgX12_init_3 (282, (.sipush 1000, 3)) (List.mem_of_getElem? (i := 29) rfl)
theorem dX12_init_285 : decode cX12_init 285 = .ok (.iastore, 1) := dgX12_init_3 (285, (.iastore, 1)) (List.mem_of_getElem? (i := 30) rfl)
theorem dX12_init_286 : decode cX12_init 286 = .ok (.aload_n 0, 1) := dgX12_init_3 (286, (.aload_n 0, 1)) (List.mem_of_getElem? (i := 31) rfl)
theorem dX12_init_287 : decode cX12_init 287 = .ok (.getfield 13, 3) := dgX12_init_3 (287, (.getfield 13, 3)) (List.mem_of_getElem? (i := 32) rfl)
theorem dX12_init_290 : decode cX12_init 290 = .ok (.bipush 6, 2) := dgX12_init_3 (290, (.bipush 6, 2)) (List.mem_of_getElem? (i := 33) rfl)
theorem dX12_init_292 : decode cX12_init 292 = .ok (.iconst (-1), 1) := dgX12_init_3 (292, (.iconst (-1), 1)) (List.mem_of_getElem? (i := 34) rfl)
theorem dX12_init_293 : decode cX12_init 293 = .ok (.iastore, 1) := dgX12_init_3 (293, (.iastore, 1)) (List.mem_of_getElem? (i := 35) rfl)
theorem dX12_init_294 : decode cX12_init 294 = .ok (.return_, 1) := dgX12_init_3 (294, (.return_, 1)) (List.mem_of_getElem? (i := 36) rfl)
set_option maxHeartbeats 4000000 in
set_option maxRecDepth 100000 in
theorem kX12_init (l : Launch) (G : g5_G) (a0 : Nat) (sz : Nat) : Met l yX12_init (wsG yX12_init cX12_init 1 none) ({ frames := 1, cells := 22, slots := 124422, locals := 12 }) (va_Pc [.ref a0] (g5_P G [(a0, .inr (12, [.int 0, .int 0, .null, .null, .null, .null, .int 0, .null, .int 0, .int 0, .int 0, .int 0, .long 0, .int 0, .int 0, .int 0, .null, .int 0, .null, .null, .int 0, .null, .null, .int 0, .int 0, .null, .null, .int 0, .null, .null, .int 0, .long 0, .long 0, .int 0, .int 0, .int 0, .int 0, .int 0, .null, .int 0, .int 0, .null, .int 0, .null, .null, .null, .int 0, .null, .null, .long 0, .null, .int 0]))] sz)) (va_Qv (fun (u : va_W) => (∃ (q1 : Nat) (q2 : Nat) (q3 : Nat) (q4 : Nat) (q5 : Nat) (q6 : Nat) (q7 : Nat) (q8 : Nat) (q9 : Nat) (q10 : Nat) (q11 : Nat) (q12 : Nat) (q13 : Nat) (q14 : Nat) (q15 : Nat) (q16 : Nat) (q17 : Nat) (q18 : Nat) (q19 : Nat) (q20 : Nat) (q21 : Nat) (q22 : Nat), (u = [(a0, (oc12 0 0 q1 q2 q3 q4 0 q5 0 0 0 0 0 (-1) 0 0 q6 0 q7 q8 0 q9 q10 0 0 q11 q12 0 q13 q14 0 0 0 0 0 0 0 0 q15 0 0 q16 0 q17 q18 q19 0 q20 q21 0 q22 0)), (q1, (arI G 7 (fun _ => 0))), (q2, (arI G 5740 (upd (upd (upd (fun _ => 0) 3 (-1)) 4 1000) 6 (-1)))), (q3, (arI G 11480 (fun _ => 0))), (q4, (arZ G 2 (fun _ => 0))), (q5, (arI G 400 (fun _ => 0))), (q6, (arI G 96 (fun _ => 0))), (q7, (arI G 400 (fun _ => 0))), (q8, (arI G 400 (fun _ => 0))), (q9, (arI G 400 (fun _ => 0))), (q10, (arI G 400 (fun _ => 0))), (q11, (arJ G 8 (vp_updL (vp_updL (vp_updL (vp_updL (vp_updL (vp_updL (vp_updL (vp_updL (fun _ => 0) 0 7734899) 1 24) 2 25) 3 278194) 4 23609) 5 81049) 6 20583955) 7 86285588))), (q12, (arJ G 4 (vp_updL (vp_updL (vp_updL (vp_updL (fun _ => 0) 0 394885) 1 153204) 2 117118547) 3 3544114))), (q13, (arJ G 13 (fun _ => 0))), (q14, (arJ G 400 (fun _ => 0))), (q15, (arI G 200 (fun _ => 0))), (q16, (arZ G 1536 (fun _ => 0))), (q17, (arJ G 49152 (fun _ => 0))), (q18, (arJ G 49152 (fun _ => 0))), (q19, (arI G 1536 (fun _ => 0))), (q20, (arZ G 1536 (fun _ => 0))), (q21, (arZ G 1536 (fun _ => 0))), (q22, (arI G 24 (fun _ => 0)))]))) (g5_B G (va_A [(a0, .inr (12, [.int 0, .int 0, .null, .null, .null, .null, .int 0, .null, .int 0, .int 0, .int 0, .int 0, .long 0, .int 0, .int 0, .int 0, .null, .int 0, .null, .null, .int 0, .null, .null, .int 0, .int 0, .null, .null, .int 0, .null, .null, .int 0, .long 0, .long 0, .int 0, .int 0, .int 0, .int 0, .int 0, .null, .int 0, .int 0, .null, .int 0, .null, .null, .null, .int 0, .null, .null, .long 0, .null, .int 0]))] sz)) (va_A [(a0, .inr (12, [.int 0, .int 0, .null, .null, .null, .null, .int 0, .null, .int 0, .int 0, .int 0, .int 0, .long 0, .int 0, .int 0, .int 0, .null, .int 0, .null, .null, .int 0, .null, .null, .int 0, .int 0, .null, .null, .int 0, .null, .null, .int 0, .long 0, .long 0, .int 0, .int 0, .int 0, .int 0, .int 0, .null, .int 0, .int 0, .null, .int 0, .null, .null, .null, .int 0, .null, .null, .long 0, .null, .int 0]))] sz)) 22 124422 (va_A [(a0, .inr (12, [.int 0, .int 0, .null, .null, .null, .null, .int 0, .null, .int 0, .int 0, .int 0, .int 0, .long 0, .int 0, .int 0, .int 0, .null, .int 0, .null, .null, .int 0, .null, .null, .int 0, .int 0, .null, .null, .int 0, .null, .null, .int 0, .long 0, .long 0, .int 0, .int 0, .int 0, .int 0, .int 0, .null, .int 0, .int 0, .null, .int 0, .null, .null, .null, .int 0, .null, .null, .long 0, .null, .int 0]))] sz) := by
  refine Met.ofW (cc := cX12_init) (maxL := 1) (ret := none) (by decide +kernel) rfl ?_
  intro p e s m args below meth c s₁ B hml hv
  obtain ⟨rfl, hsz, hP, hK, hD0, hN, hT⟩ := hv
  have hx := B.exec
  have hb := B.bytes
  have hr := B.returns
  have hts : ∀ w ∈ tblG, w.before _ s = true := fun w h => atoms_spec (ws := (wsG yX12_init cX12_init 1 none)) B.pre w (List.mem_cons_of_mem _ h)
  have hown : s.vm.findClass RX12 = some m.cls := findClass_of_methodNamed B.named
  have hlocks := B.notSynchronized
  have hin : meth.name = "<init>" := (name_of_methodNamed B.named B.method).1
  subst hsz
  have hD := hD0.self (sz := s.heap.size)
  generalize hAe : va_A [(a0, .inr (12, [.int 0, .int 0, .null, .null, .null, .null, .int 0, .null, .int 0, .int 0, .int 0, .int 0, .long 0, .int 0, .int 0, .int 0, .null, .int 0, .null, .null, .int 0, .null, .null, .int 0, .int 0, .null, .null, .int 0, .null, .null, .int 0, .long 0, .long 0, .int 0, .int 0, .int 0, .int 0, .int 0, .null, .int 0, .int 0, .null, .int 0, .null, .null, .null, .int 0, .null, .null, .long 0, .null, .int 0]))] s.heap.size = A at hD hT ⊢
  have hA : ∀ q : Nat, s.heap.size ≤ q → A q := fun q h => by rw [← hAe]; exact Or.inr h
  have hS : va_S A s.heap s.heap [] := va_S.rf
  replace hP : va_P G.1 vwCl [(a0, .inr (12, [.int 0, .int 0, .null, .null, .null, .null, .int 0, .null, .int 0, .int 0, .int 0, .int 0, .long 0, .int 0, .int 0, .int 0, .null, .int 0, .null, .null, .int 0, .null, .null, .int 0, .int 0, .null, .null, .int 0, .null, .null, .int 0, .long 0, .long 0, .int 0, .int 0, .int 0, .int 0, .int 0, .null, .int 0, .int 0, .null, .int 0, .null, .null, .null, .int 0, .null, .null, .long 0, .null, .int 0]))] s.heap := hP
  have hl := lv_entry ([.ref a0]) (n := 1) (Nat.le_of_ble_eq_true rfl)
  rw [lg_entry_eq]
  generalize (lg_sl ([.ref a0]) ++ List.replicate (1 - (lg_sl ([.ref a0])).length) Slot.unset).toArray = ls at hl ⊢
  replace hl : lv_has ls 1 [(0, .ref a0)] := hl
  refine lv_aload_n hx hb dX12_init_0 rfl (lv_at hl 0 rfl) ?_
  refine W.objInit hx hb hown (hts _ oi_X12_1) (hts _ oi_im) (hts _ oi_cd) rfl (by rw [hml]; exact hl.1) rfl dX12_init_1 (Nat.le_of_ble_eq_true rfl) (Nat.le_of_ble_eq_true rfl) ?_
  refine W.eq (g2 := F0 m 4 ls []) rfl ?_
  refine lv_aload_n hx hb dX12_init_4 rfl (lv_at hl 0 rfl) ?_
  refine lv_bipush (v := 7) hx hb dX12_init_5 (by decide +kernel) ?_
  refine W.eq (g2 := F0 m 7 ls [.int 7, .ref a0]) rfl ?_
  refine va_newa (D := G.1) (atype := .int) (ty := .int) hx hb (hts _ acl_I) rfl hK hP hD hS hA (n := 7) (N' := 7) (a0 := (7, .inl (fun _ => 0))) (fun _ => rfl) (by decide +kernel) (by decide +kernel) (by decide +kernel) (Nat.le_of_ble_eq_true rfl) (Nat.le_of_ble_eq_true rfl) dX12_init_7 (fun q1 cA H hKn hP hD hS => ?_)
  obtain rfl : cA = G.2 0 := g5_cI hKn
  refine g5_rs [(a0, .inr (12, [.int 0, .int 0, .null, .null, .null, .null, .int 0, .null, .int 0, .int 0, .int 0, .int 0, .long 0, .int 0, .int 0, .int 0, .null, .int 0, .null, .null, .int 0, .null, .null, .int 0, .int 0, .null, .null, .int 0, .null, .null, .int 0, .long 0, .long 0, .int 0, .int 0, .int 0, .int 0, .int 0, .null, .int 0, .int 0, .null, .int 0, .null, .null, .null, .int 0, .null, .null, .long 0, .null, .int 0])), (q1, (arI G 7 (fun _ => 0)))] hP hD ?_
  clear hP hD
  intro hP hD
  refine W.widen (k := 1) (n := 7) (Nat.le_of_ble_eq_true rfl) (Nat.le_of_ble_eq_true rfl) ?_
  refine va_putF (D := G.1) (ci := 12) (v := .ref q1) (ty := .array .int) (C := RX12) (T := TX12) (N := 52) hx hb hts inG_X12 tyX12 tyX12_ok nmX12 hown hK hP hD hS 0 rfl rfl 2 (by decide +kernel) (hts _ fl_X12_7) (fun _ h9 => h9) rfl hin rfl (by decide +kernel) rfl rfl (Nat.le_of_ble_eq_true rfl) dX12_init_9 ?_
  clear hP hD hS
  intro H locs hP hD hS
  refine g5_rs [(a0, .inr (12, [.int 0, .int 0, .ref q1, .null, .null, .null, .int 0, .null, .int 0, .int 0, .int 0, .int 0, .long 0, .int 0, .int 0, .int 0, .null, .int 0, .null, .null, .int 0, .null, .null, .int 0, .int 0, .null, .null, .int 0, .null, .null, .int 0, .long 0, .long 0, .int 0, .int 0, .int 0, .int 0, .int 0, .null, .int 0, .int 0, .null, .int 0, .null, .null, .null, .int 0, .null, .null, .long 0, .null, .int 0])), (q1, (arI G 7 (fun _ => 0)))] hP hD ?_
  clear hP hD
  intro hP hD
  refine lv_aload_n hx hb dX12_init_12 rfl (lv_at hl 0 rfl) ?_
  refine lv_sipush (v := 5740) hx hb dX12_init_13 (by decide +kernel) ?_
  refine va_newa (D := G.1) (atype := .int) (ty := .int) hx hb (hts _ acl_I) rfl hK hP hD hS hA (n := 5740) (N' := 5740) (a0 := (5740, .inl (fun _ => 0))) (fun _ => rfl) (by decide +kernel) (by decide +kernel) (by decide +kernel) (Nat.le_of_ble_eq_true rfl) (Nat.le_of_ble_eq_true rfl) dX12_init_16 (fun q2 cA H hKn hP hD hS => ?_)
  obtain rfl : cA = G.2 0 := g5_cI hKn
  refine g5_rs [(a0, .inr (12, [.int 0, .int 0, .ref q1, .null, .null, .null, .int 0, .null, .int 0, .int 0, .int 0, .int 0, .long 0, .int 0, .int 0, .int 0, .null, .int 0, .null, .null, .int 0, .null, .null, .int 0, .int 0, .null, .null, .int 0, .null, .null, .int 0, .long 0, .long 0, .int 0, .int 0, .int 0, .int 0, .int 0, .null, .int 0, .int 0, .null, .int 0, .null, .null, .null, .int 0, .null, .null, .long 0, .null, .int 0])), (q1, (arI G 7 (fun _ => 0))), (q2, (arI G 5740 (fun _ => 0)))] hP hD ?_
  clear hP hD
  intro hP hD
  refine W.widen (k := 2) (n := 5747) (Nat.le_of_ble_eq_true rfl) (Nat.le_of_ble_eq_true rfl) ?_
  refine W.eq (g2 := F0 m 18 ls [.ref q2, .ref a0]) rfl ?_
  refine va_putF (D := G.1) (ci := 12) (v := .ref q2) (ty := .array .int) (C := RX12) (T := TX12) (N := 52) hx hb hts inG_X12 tyX12 tyX12_ok nmX12 hown hK hP hD hS 0 rfl rfl 3 (by decide +kernel) (hts _ fl_X12_13) (fun _ h9 => h9) rfl hin rfl (by decide +kernel) rfl rfl (Nat.le_of_ble_eq_true rfl) dX12_init_18 ?_
  clear hP hD hS
  intro H locs hP hD hS
  refine g5_rs [(a0, .inr (12, [.int 0, .int 0, .ref q1, .ref q2, .null, .null, .int 0, .null, .int 0, .int 0, .int 0, .int 0, .long 0, .int 0, .int 0, .int 0, .null, .int 0, .null, .null, .int 0, .null, .null, .int 0, .int 0, .null, .null, .int 0, .null, .null, .int 0, .long 0, .long 0, .int 0, .int 0, .int 0, .int 0, .int 0, .null, .int 0, .int 0, .null, .int 0, .null, .null, .null, .int 0, .null, .null, .long 0, .null, .int 0])), (q1, (arI G 7 (fun _ => 0))), (q2, (arI G 5740 (fun _ => 0)))] hP hD ?_
  clear hP hD
  intro hP hD
  refine lv_aload_n hx hb dX12_init_21 rfl (lv_at hl 0 rfl) ?_
  refine lv_sipush (v := 11480) hx hb dX12_init_22 (by decide +kernel) ?_
  refine va_newa (D := G.1) (atype := .int) (ty := .int) hx hb (hts _ acl_I) rfl hK hP hD hS hA (n := 11480) (N' := 11480) (a0 := (11480, .inl (fun _ => 0))) (fun _ => rfl) (by decide +kernel) (by decide +kernel) (by decide +kernel) (Nat.le_of_ble_eq_true rfl) (Nat.le_of_ble_eq_true rfl) dX12_init_25 (fun q3 cA H hKn hP hD hS => ?_)
  obtain rfl : cA = G.2 0 := g5_cI hKn
  refine g5_rs [(a0, .inr (12, [.int 0, .int 0, .ref q1, .ref q2, .null, .null, .int 0, .null, .int 0, .int 0, .int 0, .int 0, .long 0, .int 0, .int 0, .int 0, .null, .int 0, .null, .null, .int 0, .null, .null, .int 0, .int 0, .null, .null, .int 0, .null, .null, .int 0, .long 0, .long 0, .int 0, .int 0, .int 0, .int 0, .int 0, .null, .int 0, .int 0, .null, .int 0, .null, .null, .null, .int 0, .null, .null, .long 0, .null, .int 0])), (q1, (arI G 7 (fun _ => 0))), (q2, (arI G 5740 (fun _ => 0))), (q3, (arI G 11480 (fun _ => 0)))] hP hD ?_
  clear hP hD
  intro hP hD
  refine W.widen (k := 3) (n := 17227) (Nat.le_of_ble_eq_true rfl) (Nat.le_of_ble_eq_true rfl) ?_
  refine va_putF (D := G.1) (ci := 12) (v := .ref q3) (ty := .array .int) (C := RX12) (T := TX12) (N := 52) hx hb hts inG_X12 tyX12 tyX12_ok nmX12 hown hK hP hD hS 0 rfl rfl 4 (by decide +kernel) (hts _ fl_X12_16) (fun _ h9 => h9) rfl hin rfl (by decide +kernel) rfl rfl (Nat.le_of_ble_eq_true rfl) dX12_init_27 ?_
  clear hP hD hS
  intro H locs hP hD hS
  refine g5_rs [(a0, .inr (12, [.int 0, .int 0, .ref q1, .ref q2, .ref q3, .null, .int 0, .null, .int 0, .int 0, .int 0, .int 0, .long 0, .int 0, .int 0, .int 0, .null, .int 0, .null, .null, .int 0, .null, .null, .int 0, .int 0, .null, .null, .int 0, .null, .null, .int 0, .long 0, .long 0, .int 0, .int 0, .int 0, .int 0, .int 0, .null, .int 0, .int 0, .null, .int 0, .null, .null, .null, .int 0, .null, .null, .long 0, .null, .int 0])), (q1, (arI G 7 (fun _ => 0))), (q2, (arI G 5740 (fun _ => 0))), (q3, (arI G 11480 (fun _ => 0)))] hP hD ?_
  clear hP hD
  intro hP hD
  refine W.eq (g2 := F0 m 30 ls []) rfl ?_
  refine lv_aload_n hx hb dX12_init_30 rfl (lv_at hl 0 rfl) ?_
  refine lv_iconst (v := 2) hx hb dX12_init_31 (by decide +kernel) ?_
  refine va_newa (D := G.1) (atype := .boolean) (ty := .boolean) hx hb (hts _ acl_Z) rfl hK hP hD hS hA (n := 2) (N' := 2) (a0 := (2, .inl (fun _ => 0))) (fun _ => rfl) (by decide +kernel) (by decide +kernel) (by decide +kernel) (Nat.le_of_ble_eq_true rfl) (Nat.le_of_ble_eq_true rfl) dX12_init_32 (fun q4 cA H hKn hP hD hS => ?_)
  obtain rfl : cA = G.2 2 := g5_cZ hKn
  refine g5_rs [(a0, .inr (12, [.int 0, .int 0, .ref q1, .ref q2, .ref q3, .null, .int 0, .null, .int 0, .int 0, .int 0, .int 0, .long 0, .int 0, .int 0, .int 0, .null, .int 0, .null, .null, .int 0, .null, .null, .int 0, .int 0, .null, .null, .int 0, .null, .null, .int 0, .long 0, .long 0, .int 0, .int 0, .int 0, .int 0, .int 0, .null, .int 0, .int 0, .null, .int 0, .null, .null, .null, .int 0, .null, .null, .long 0, .null, .int 0])), (q1, (arI G 7 (fun _ => 0))), (q2, (arI G 5740 (fun _ => 0))), (q3, (arI G 11480 (fun _ => 0))), (q4, (arZ G 2 (fun _ => 0)))] hP hD ?_
  clear hP hD
  intro hP hD
  refine W.widen (k := 4) (n := 17229) (Nat.le_of_ble_eq_true rfl) (Nat.le_of_ble_eq_true rfl) ?_
  refine va_putF (D := G.1) (ci := 12) (v := .ref q4) (ty := .array .boolean) (C := RX12) (T := TX12) (N := 52) hx hb hts inG_X12 tyX12 tyX12_ok nmX12 hown hK hP hD hS 0 rfl rfl 5 (by decide +kernel) (hts _ fl_X12_19) (fun _ h9 => h9) rfl hin rfl (by decide +kernel) rfl rfl (Nat.le_of_ble_eq_true rfl) dX12_init_34 ?_
  clear hP hD hS
  intro H locs hP hD hS
  refine g5_rs [(a0, .inr (12, [.int 0, .int 0, .ref q1, .ref q2, .ref q3, .ref q4, .int 0, .null, .int 0, .int 0, .int 0, .int 0, .long 0, .int 0, .int 0, .int 0, .null, .int 0, .null, .null, .int 0, .null, .null, .int 0, .int 0, .null, .null, .int 0, .null, .null, .int 0, .long 0, .long 0, .int 0, .int 0, .int 0, .int 0, .int 0, .null, .int 0, .int 0, .null, .int 0, .null, .null, .null, .int 0, .null, .null, .long 0, .null, .int 0])), (q1, (arI G 7 (fun _ => 0))), (q2, (arI G 5740 (fun _ => 0))), (q3, (arI G 11480 (fun _ => 0))), (q4, (arZ G 2 (fun _ => 0)))] hP hD ?_
  clear hP hD
  intro hP hD
  refine lv_aload_n hx hb dX12_init_37 rfl (lv_at hl 0 rfl) ?_
  refine W.eq (g2 := F0 m 38 ls [.ref a0]) rfl ?_
  refine lv_sipush (v := 400) hx hb dX12_init_38 (by decide +kernel) ?_
  refine va_newa (D := G.1) (atype := .int) (ty := .int) hx hb (hts _ acl_I) rfl hK hP hD hS hA (n := 400) (N' := 400) (a0 := (400, .inl (fun _ => 0))) (fun _ => rfl) (by decide +kernel) (by decide +kernel) (by decide +kernel) (Nat.le_of_ble_eq_true rfl) (Nat.le_of_ble_eq_true rfl) dX12_init_41 (fun q5 cA H hKn hP hD hS => ?_)
  obtain rfl : cA = G.2 0 := g5_cI hKn
  refine g5_rs [(a0, .inr (12, [.int 0, .int 0, .ref q1, .ref q2, .ref q3, .ref q4, .int 0, .null, .int 0, .int 0, .int 0, .int 0, .long 0, .int 0, .int 0, .int 0, .null, .int 0, .null, .null, .int 0, .null, .null, .int 0, .int 0, .null, .null, .int 0, .null, .null, .int 0, .long 0, .long 0, .int 0, .int 0, .int 0, .int 0, .int 0, .null, .int 0, .int 0, .null, .int 0, .null, .null, .null, .int 0, .null, .null, .long 0, .null, .int 0])), (q1, (arI G 7 (fun _ => 0))), (q2, (arI G 5740 (fun _ => 0))), (q3, (arI G 11480 (fun _ => 0))), (q4, (arZ G 2 (fun _ => 0))), (q5, (arI G 400 (fun _ => 0)))] hP hD ?_
  clear hP hD
  intro hP hD
  refine W.widen (k := 5) (n := 17629) (Nat.le_of_ble_eq_true rfl) (Nat.le_of_ble_eq_true rfl) ?_
  refine va_putF (D := G.1) (ci := 12) (v := .ref q5) (ty := .array .int) (C := RX12) (T := TX12) (N := 52) hx hb hts inG_X12 tyX12 tyX12_ok nmX12 hown hK hP hD hS 0 rfl rfl 7 (by decide +kernel) (hts _ fl_X12_23) (fun _ h9 => h9) rfl hin rfl (by decide +kernel) rfl rfl (Nat.le_of_ble_eq_true rfl) dX12_init_43 ?_
  clear hP hD hS
  intro H locs hP hD hS
  refine g5_rs [(a0, .inr (12, [.int 0, .int 0, .ref q1, .ref q2, .ref q3, .ref q4, .int 0, .ref q5, .int 0, .int 0, .int 0, .int 0, .long 0, .int 0, .int 0, .int 0, .null, .int 0, .null, .null, .int 0, .null, .null, .int 0, .int 0, .null, .null, .int 0, .null, .null, .int 0, .long 0, .long 0, .int 0, .int 0, .int 0, .int 0, .int 0, .null, .int 0, .int 0, .null, .int 0, .null, .null, .null, .int 0, .null, .null, .long 0, .null, .int 0])), (q1, (arI G 7 (fun _ => 0))), (q2, (arI G 5740 (fun _ => 0))), (q3, (arI G 11480 (fun _ => 0))), (q4, (arZ G 2 (fun _ => 0))), (q5, (arI G 400 (fun _ => 0)))] hP hD ?_
  clear hP hD
  intro hP hD
  refine lv_aload_n hx hb dX12_init_46 rfl (lv_at hl 0 rfl) ?_
  refine lv_iconst (v := (-1)) hx hb dX12_init_47 (by decide +kernel) ?_
  refine W.eq (g2 := F0 m 48 ls [.int (-1), .ref a0]) rfl ?_
  refine va_put (D := G.1) (ci := 12) (v := .int (-1)) (ty := .int) (C := RX12) (T := TX12) (N := 52) hx hb hts inG_X12 tyX12 tyX12_ok nmX12 hown hK hP hD hS 0 rfl rfl 13 (by decide +kernel) (hts _ fl_X12_26) (fun _ h9 => h9) rfl (by decide +kernel) rfl rfl (Nat.le_of_ble_eq_true rfl) dX12_init_48 ?_
  clear hP hD hS
  intro H locs hP hD hS
  refine g5_rs [(a0, .inr (12, [.int 0, .int 0, .ref q1, .ref q2, .ref q3, .ref q4, .int 0, .ref q5, .int 0, .int 0, .int 0, .int 0, .long 0, .int (-1), .int 0, .int 0, .null, .int 0, .null, .null, .int 0, .null, .null, .int 0, .int 0, .null, .null, .int 0, .null, .null, .int 0, .long 0, .long 0, .int 0, .int 0, .int 0, .int 0, .int 0, .null, .int 0, .int 0, .null, .int 0, .null, .null, .null, .int 0, .null, .null, .long 0, .null, .int 0])), (q1, (arI G 7 (fun _ => 0))), (q2, (arI G 5740 (fun _ => 0))), (q3, (arI G 11480 (fun _ => 0))), (q4, (arZ G 2 (fun _ => 0))), (q5, (arI G 400 (fun _ => 0)))] hP hD ?_
  clear hP hD
  intro hP hD
  refine lv_aload_n hx hb dX12_init_51 rfl (lv_at hl 0 rfl) ?_
  refine lv_bipush (v := 96) hx hb dX12_init_52 (by decide +kernel) ?_
  refine va_newa (D := G.1) (atype := .int) (ty := .int) hx hb (hts _ acl_I) rfl hK hP hD hS hA (n := 96) (N' := 96) (a0 := (96, .inl (fun _ => 0))) (fun _ => rfl) (by decide +kernel) (by decide +kernel) (by decide +kernel) (Nat.le_of_ble_eq_true rfl) (Nat.le_of_ble_eq_true rfl) dX12_init_54 (fun q6 cA H hKn hP hD hS => ?_)
  obtain rfl : cA = G.2 0 := g5_cI hKn
  refine g5_rs [(a0, .inr (12, [.int 0, .int 0, .ref q1, .ref q2, .ref q3, .ref q4, .int 0, .ref q5, .int 0, .int 0, .int 0, .int 0, .long 0, .int (-1), .int 0, .int 0, .null, .int 0, .null, .null, .int 0, .null, .null, .int 0, .int 0, .null, .null, .int 0, .null, .null, .int 0, .long 0, .long 0, .int 0, .int 0, .int 0, .int 0, .int 0, .null, .int 0, .int 0, .null, .int 0, .null, .null, .null, .int 0, .null, .null, .long 0, .null, .int 0])), (q1, (arI G 7 (fun _ => 0))), (q2, (arI G 5740 (fun _ => 0))), (q3, (arI G 11480 (fun _ => 0))), (q4, (arZ G 2 (fun _ => 0))), (q5, (arI G 400 (fun _ => 0))), (q6, (arI G 96 (fun _ => 0)))] hP hD ?_
  clear hP hD
  intro hP hD
  refine W.widen (k := 6) (n := 17725) (Nat.le_of_ble_eq_true rfl) (Nat.le_of_ble_eq_true rfl) ?_
  refine va_putF (D := G.1) (ci := 12) (v := .ref q6) (ty := .array .int) (C := RX12) (T := TX12) (N := 52) hx hb hts inG_X12 tyX12 tyX12_ok nmX12 hown hK hP hD hS 0 rfl rfl 16 (by decide +kernel) (hts _ fl_X12_30) (fun _ h9 => h9) rfl hin rfl (by decide +kernel) rfl rfl (Nat.le_of_ble_eq_true rfl) dX12_init_56 ?_
  clear hP hD hS
  intro H locs hP hD hS
  refine g5_rs [(a0, .inr (12, [.int 0, .int 0, .ref q1, .ref q2, .ref q3, .ref q4, .int 0, .ref q5, .int 0, .int 0, .int 0, .int 0, .long 0, .int (-1), .int 0, .int 0, .ref q6, .int 0, .null, .null, .int 0, .null, .null, .int 0, .int 0, .null, .null, .int 0, .null, .null, .int 0, .long 0, .long 0, .int 0, .int 0, .int 0, .int 0, .int 0, .null, .int 0, .int 0, .null, .int 0, .null, .null, .null, .int 0, .null, .null, .long 0, .null, .int 0])), (q1, (arI G 7 (fun _ => 0))), (q2, (arI G 5740 (fun _ => 0))), (q3, (arI G 11480 (fun _ => 0))), (q4, (arZ G 2 (fun _ => 0))), (q5, (arI G 400 (fun _ => 0))), (q6, (arI G 96 (fun _ => 0)))] hP hD ?_
  clear hP hD
  intro hP hD
  refine W.eq (g2 := F0 m 59 ls []) rfl ?_
  refine lv_aload_n hx hb dX12_init_59 rfl (lv_at hl 0 rfl) ?_
  refine lv_sipush (v := 400) hx hb dX12_init_60 (by decide +kernel) ?_
  refine va_newa (D := G.1) (atype := .int) (ty := .int) hx hb (hts _ acl_I) rfl hK hP hD hS hA (n := 400) (N' := 400) (a0 := (400, .inl (fun _ => 0))) (fun _ => rfl) (by decide +kernel) (by decide +kernel) (by decide +kernel) (Nat.le_of_ble_eq_true rfl) (Nat.le_of_ble_eq_true rfl) dX12_init_63 (fun q7 cA H hKn hP hD hS => ?_)
  obtain rfl : cA = G.2 0 := g5_cI hKn
  refine g5_rs [(a0, .inr (12, [.int 0, .int 0, .ref q1, .ref q2, .ref q3, .ref q4, .int 0, .ref q5, .int 0, .int 0, .int 0, .int 0, .long 0, .int (-1), .int 0, .int 0, .ref q6, .int 0, .null, .null, .int 0, .null, .null, .int 0, .int 0, .null, .null, .int 0, .null, .null, .int 0, .long 0, .long 0, .int 0, .int 0, .int 0, .int 0, .int 0, .null, .int 0, .int 0, .null, .int 0, .null, .null, .null, .int 0, .null, .null, .long 0, .null, .int 0])), (q1, (arI G 7 (fun _ => 0))), (q2, (arI G 5740 (fun _ => 0))), (q3, (arI G 11480 (fun _ => 0))), (q4, (arZ G 2 (fun _ => 0))), (q5, (arI G 400 (fun _ => 0))), (q6, (arI G 96 (fun _ => 0))), (q7, (arI G 400 (fun _ => 0)))] hP hD ?_
  clear hP hD
  intro hP hD
  refine W.widen (k := 7) (n := 18125) (Nat.le_of_ble_eq_true rfl) (Nat.le_of_ble_eq_true rfl) ?_
  refine va_putF (D := G.1) (ci := 12) (v := .ref q7) (ty := .array .int) (C := RX12) (T := TX12) (N := 52) hx hb hts inG_X12 tyX12 tyX12_ok nmX12 hown hK hP hD hS 0 rfl rfl 18 (by decide +kernel) (hts _ fl_X12_33) (fun _ h9 => h9) rfl hin rfl (by decide +kernel) rfl rfl (Nat.le_of_ble_eq_true rfl) dX12_init_65 ?_
  clear hP hD hS
  intro H locs hP hD hS
  refine g5_rs [(a0, .inr (12, [.int 0, .int 0, .ref q1, .ref q2, .ref q3, .ref q4, .int 0, .ref q5, .int 0, .int 0, .int 0, .int 0, .long 0, .int (-1), .int 0, .int 0, .ref q6, .int 0, .ref q7, .null, .int 0, .null, .null, .int 0, .int 0, .null, .null, .int 0, .null, .null, .int 0, .long 0, .long 0, .int 0, .int 0, .int 0, .int 0, .int 0, .null, .int 0, .int 0, .null, .int 0, .null, .null, .null, .int 0, .null, .null, .long 0, .null, .int 0])), (q1, (arI G 7 (fun _ => 0))), (q2, (arI G 5740 (fun _ => 0))), (q3, (arI G 11480 (fun _ => 0))), (q4, (arZ G 2 (fun _ => 0))), (q5, (arI G 400 (fun _ => 0))), (q6, (arI G 96 (fun _ => 0))), (q7, (arI G 400 (fun _ => 0)))] hP hD ?_
  clear hP hD
  intro hP hD
  refine lv_aload_n hx hb dX12_init_68 rfl (lv_at hl 0 rfl) ?_
  refine W.eq (g2 := F0 m 69 ls [.ref a0]) rfl ?_
  refine lv_sipush (v := 400) hx hb dX12_init_69 (by decide +kernel) ?_
  refine va_newa (D := G.1) (atype := .int) (ty := .int) hx hb (hts _ acl_I) rfl hK hP hD hS hA (n := 400) (N' := 400) (a0 := (400, .inl (fun _ => 0))) (fun _ => rfl) (by decide +kernel) (by decide +kernel) (by decide +kernel) (Nat.le_of_ble_eq_true rfl) (Nat.le_of_ble_eq_true rfl) dX12_init_72 (fun q8 cA H hKn hP hD hS => ?_)
  obtain rfl : cA = G.2 0 := g5_cI hKn
  refine g5_rs [(a0, .inr (12, [.int 0, .int 0, .ref q1, .ref q2, .ref q3, .ref q4, .int 0, .ref q5, .int 0, .int 0, .int 0, .int 0, .long 0, .int (-1), .int 0, .int 0, .ref q6, .int 0, .ref q7, .null, .int 0, .null, .null, .int 0, .int 0, .null, .null, .int 0, .null, .null, .int 0, .long 0, .long 0, .int 0, .int 0, .int 0, .int 0, .int 0, .null, .int 0, .int 0, .null, .int 0, .null, .null, .null, .int 0, .null, .null, .long 0, .null, .int 0])), (q1, (arI G 7 (fun _ => 0))), (q2, (arI G 5740 (fun _ => 0))), (q3, (arI G 11480 (fun _ => 0))), (q4, (arZ G 2 (fun _ => 0))), (q5, (arI G 400 (fun _ => 0))), (q6, (arI G 96 (fun _ => 0))), (q7, (arI G 400 (fun _ => 0))), (q8, (arI G 400 (fun _ => 0)))] hP hD ?_
  clear hP hD
  intro hP hD
  refine W.widen (k := 8) (n := 18525) (Nat.le_of_ble_eq_true rfl) (Nat.le_of_ble_eq_true rfl) ?_
  refine va_putF (D := G.1) (ci := 12) (v := .ref q8) (ty := .array .int) (C := RX12) (T := TX12) (N := 52) hx hb hts inG_X12 tyX12 tyX12_ok nmX12 hown hK hP hD hS 0 rfl rfl 19 (by decide +kernel) (hts _ fl_X12_36) (fun _ h9 => h9) rfl hin rfl (by decide +kernel) rfl rfl (Nat.le_of_ble_eq_true rfl) dX12_init_74 ?_
  clear hP hD hS
  intro H locs hP hD hS
  refine g5_rs [(a0, .inr (12, [.int 0, .int 0, .ref q1, .ref q2, .ref q3, .ref q4, .int 0, .ref q5, .int 0, .int 0, .int 0, .int 0, .long 0, .int (-1), .int 0, .int 0, .ref q6, .int 0, .ref q7, .ref q8, .int 0, .null, .null, .int 0, .int 0, .null, .null, .int 0, .null, .null, .int 0, .long 0, .long 0, .int 0, .int 0, .int 0, .int 0, .int 0, .null, .int 0, .int 0, .null, .int 0, .null, .null, .null, .int 0, .null, .null, .long 0, .null, .int 0])), (q1, (arI G 7 (fun _ => 0))), (q2, (arI G 5740 (fun _ => 0))), (q3, (arI G 11480 (fun _ => 0))), (q4, (arZ G 2 (fun _ => 0))), (q5, (arI G 400 (fun _ => 0))), (q6, (arI G 96 (fun _ => 0))), (q7, (arI G 400 (fun _ => 0))), (q8, (arI G 400 (fun _ => 0)))] hP hD ?_
  clear hP hD
  intro hP hD
  refine lv_aload_n hx hb dX12_init_77 rfl (lv_at hl 0 rfl) ?_
  refine lv_sipush (v := 400) hx hb dX12_init_78 (by decide +kernel) ?_
  refine W.eq (g2 := F0 m 81 ls [.int 400, .ref a0]) rfl ?_
  refine va_newa (D := G.1) (atype := .int) (ty := .int) hx hb (hts _ acl_I) rfl hK hP hD hS hA (n := 400) (N' := 400) (a0 := (400, .inl (fun _ => 0))) (fun _ => rfl) (by decide +kernel) (by decide +kernel) (by decide +kernel) (Nat.le_of_ble_eq_true rfl) (Nat.le_of_ble_eq_true rfl) dX12_init_81 (fun q9 cA H hKn hP hD hS => ?_)
  obtain rfl : cA = G.2 0 := g5_cI hKn
  refine g5_rs [(a0, .inr (12, [.int 0, .int 0, .ref q1, .ref q2, .ref q3, .ref q4, .int 0, .ref q5, .int 0, .int 0, .int 0, .int 0, .long 0, .int (-1), .int 0, .int 0, .ref q6, .int 0, .ref q7, .ref q8, .int 0, .null, .null, .int 0, .int 0, .null, .null, .int 0, .null, .null, .int 0, .long 0, .long 0, .int 0, .int 0, .int 0, .int 0, .int 0, .null, .int 0, .int 0, .null, .int 0, .null, .null, .null, .int 0, .null, .null, .long 0, .null, .int 0])), (q1, (arI G 7 (fun _ => 0))), (q2, (arI G 5740 (fun _ => 0))), (q3, (arI G 11480 (fun _ => 0))), (q4, (arZ G 2 (fun _ => 0))), (q5, (arI G 400 (fun _ => 0))), (q6, (arI G 96 (fun _ => 0))), (q7, (arI G 400 (fun _ => 0))), (q8, (arI G 400 (fun _ => 0))), (q9, (arI G 400 (fun _ => 0)))] hP hD ?_
  clear hP hD
  intro hP hD
  refine W.widen (k := 9) (n := 18925) (Nat.le_of_ble_eq_true rfl) (Nat.le_of_ble_eq_true rfl) ?_
  refine va_putF (D := G.1) (ci := 12) (v := .ref q9) (ty := .array .int) (C := RX12) (T := TX12) (N := 52) hx hb hts inG_X12 tyX12 tyX12_ok nmX12 hown hK hP hD hS 0 rfl rfl 21 (by decide +kernel) (hts _ fl_X12_39) (fun _ h9 => h9) rfl hin rfl (by decide +kernel) rfl rfl (Nat.le_of_ble_eq_true rfl) dX12_init_83 ?_
  clear hP hD hS
  intro H locs hP hD hS
  refine g5_rs [(a0, .inr (12, [.int 0, .int 0, .ref q1, .ref q2, .ref q3, .ref q4, .int 0, .ref q5, .int 0, .int 0, .int 0, .int 0, .long 0, .int (-1), .int 0, .int 0, .ref q6, .int 0, .ref q7, .ref q8, .int 0, .ref q9, .null, .int 0, .int 0, .null, .null, .int 0, .null, .null, .int 0, .long 0, .long 0, .int 0, .int 0, .int 0, .int 0, .int 0, .null, .int 0, .int 0, .null, .int 0, .null, .null, .null, .int 0, .null, .null, .long 0, .null, .int 0])), (q1, (arI G 7 (fun _ => 0))), (q2, (arI G 5740 (fun _ => 0))), (q3, (arI G 11480 (fun _ => 0))), (q4, (arZ G 2 (fun _ => 0))), (q5, (arI G 400 (fun _ => 0))), (q6, (arI G 96 (fun _ => 0))), (q7, (arI G 400 (fun _ => 0))), (q8, (arI G 400 (fun _ => 0))), (q9, (arI G 400 (fun _ => 0)))] hP hD ?_
  clear hP hD
  intro hP hD
  refine lv_aload_n hx hb dX12_init_86 rfl (lv_at hl 0 rfl) ?_
  refine lv_sipush (v := 400) hx hb dX12_init_87 (by decide +kernel) ?_
  refine va_newa (D := G.1) (atype := .int) (ty := .int) hx hb (hts _ acl_I) rfl hK hP hD hS hA (n := 400) (N' := 400) (a0 := (400, .inl (fun _ => 0))) (fun _ => rfl) (by decide +kernel) (by decide +kernel) (by decide +kernel) (Nat.le_of_ble_eq_true rfl) (Nat.le_of_ble_eq_true rfl) dX12_init_90 (fun q10 cA H hKn hP hD hS => ?_)
  obtain rfl : cA = G.2 0 := g5_cI hKn
  refine g5_rs [(a0, .inr (12, [.int 0, .int 0, .ref q1, .ref q2, .ref q3, .ref q4, .int 0, .ref q5, .int 0, .int 0, .int 0, .int 0, .long 0, .int (-1), .int 0, .int 0, .ref q6, .int 0, .ref q7, .ref q8, .int 0, .ref q9, .null, .int 0, .int 0, .null, .null, .int 0, .null, .null, .int 0, .long 0, .long 0, .int 0, .int 0, .int 0, .int 0, .int 0, .null, .int 0, .int 0, .null, .int 0, .null, .null, .null, .int 0, .null, .null, .long 0, .null, .int 0])), (q1, (arI G 7 (fun _ => 0))), (q2, (arI G 5740 (fun _ => 0))), (q3, (arI G 11480 (fun _ => 0))), (q4, (arZ G 2 (fun _ => 0))), (q5, (arI G 400 (fun _ => 0))), (q6, (arI G 96 (fun _ => 0))), (q7, (arI G 400 (fun _ => 0))), (q8, (arI G 400 (fun _ => 0))), (q9, (arI G 400 (fun _ => 0))), (q10, (arI G 400 (fun _ => 0)))] hP hD ?_
  clear hP hD
  intro hP hD
  refine W.widen (k := 10) (n := 19325) (Nat.le_of_ble_eq_true rfl) (Nat.le_of_ble_eq_true rfl) ?_
  refine W.eq (g2 := F0 m 92 ls [.ref q10, .ref a0]) rfl ?_
  refine va_putF (D := G.1) (ci := 12) (v := .ref q10) (ty := .array .int) (C := RX12) (T := TX12) (N := 52) hx hb hts inG_X12 tyX12 tyX12_ok nmX12 hown hK hP hD hS 0 rfl rfl 22 (by decide +kernel) (hts _ fl_X12_42) (fun _ h9 => h9) rfl hin rfl (by decide +kernel) rfl rfl (Nat.le_of_ble_eq_true rfl) dX12_init_92 ?_
  clear hP hD hS
  intro H locs hP hD hS
  refine g5_rs [(a0, .inr (12, [.int 0, .int 0, .ref q1, .ref q2, .ref q3, .ref q4, .int 0, .ref q5, .int 0, .int 0, .int 0, .int 0, .long 0, .int (-1), .int 0, .int 0, .ref q6, .int 0, .ref q7, .ref q8, .int 0, .ref q9, .ref q10, .int 0, .int 0, .null, .null, .int 0, .null, .null, .int 0, .long 0, .long 0, .int 0, .int 0, .int 0, .int 0, .int 0, .null, .int 0, .int 0, .null, .int 0, .null, .null, .null, .int 0, .null, .null, .long 0, .null, .int 0])), (q1, (arI G 7 (fun _ => 0))), (q2, (arI G 5740 (fun _ => 0))), (q3, (arI G 11480 (fun _ => 0))), (q4, (arZ G 2 (fun _ => 0))), (q5, (arI G 400 (fun _ => 0))), (q6, (arI G 96 (fun _ => 0))), (q7, (arI G 400 (fun _ => 0))), (q8, (arI G 400 (fun _ => 0))), (q9, (arI G 400 (fun _ => 0))), (q10, (arI G 400 (fun _ => 0)))] hP hD ?_
  clear hP hD
  intro hP hD
  refine lv_aload_n hx hb dX12_init_95 rfl (lv_at hl 0 rfl) ?_
  refine lv_bipush (v := 8) hx hb dX12_init_96 (by decide +kernel) ?_
  refine va_newa (D := G.1) (atype := .long) (ty := .long) hx hb (hts _ acl_J) rfl hK hP hD hS hA (n := 8) (N' := 8) (a0 := (8, .inr (.inl (fun _ => 0)))) (fun _ => rfl) (by decide +kernel) (by decide +kernel) (by decide +kernel) (Nat.le_of_ble_eq_true rfl) (Nat.le_of_ble_eq_true rfl) dX12_init_98 (fun q11 cA H hKn hP hD hS => ?_)
  obtain rfl : cA = G.2 1 := g5_cJ hKn
  refine g5_rs [(a0, .inr (12, [.int 0, .int 0, .ref q1, .ref q2, .ref q3, .ref q4, .int 0, .ref q5, .int 0, .int 0, .int 0, .int 0, .long 0, .int (-1), .int 0, .int 0, .ref q6, .int 0, .ref q7, .ref q8, .int 0, .ref q9, .ref q10, .int 0, .int 0, .null, .null, .int 0, .null, .null, .int 0, .long 0, .long 0, .int 0, .int 0, .int 0, .int 0, .int 0, .null, .int 0, .int 0, .null, .int 0, .null, .null, .null, .int 0, .null, .null, .long 0, .null, .int 0])), (q1, (arI G 7 (fun _ => 0))), (q2, (arI G 5740 (fun _ => 0))), (q3, (arI G 11480 (fun _ => 0))), (q4, (arZ G 2 (fun _ => 0))), (q5, (arI G 400 (fun _ => 0))), (q6, (arI G 96 (fun _ => 0))), (q7, (arI G 400 (fun _ => 0))), (q8, (arI G 400 (fun _ => 0))), (q9, (arI G 400 (fun _ => 0))), (q10, (arI G 400 (fun _ => 0))), (q11, (arJ G 8 (fun _ => 0)))] hP hD ?_
  clear hP hD
  intro hP hD
  refine W.widen (k := 11) (n := 19333) (Nat.le_of_ble_eq_true rfl) (Nat.le_of_ble_eq_true rfl) ?_
  refine lv_dup hx hb dX12_init_100 rfl ?_
  refine W.eq (g2 := F0 m 101 ls [.ref q11, .ref q11, .ref a0]) rfl ?_
  refine lv_iconst (v := 0) hx hb dX12_init_101 (by decide +kernel) ?_
  refine lv_ldc2 (v := 7734899) hx hb hown (hts _ kl_X12_45) dX12_init_102 ?_
  refine va_last hx hb hK hP hD hS 11 1 rfl rfl (i := 0) (x := 7734899) (by unfold vp_in; decide) dX12_init_105 ?_
  clear hP hD hS
  intro H locs hP hD hS
  refine g5_rs [(a0, .inr (12, [.int 0, .int 0, .ref q1, .ref q2, .ref q3, .ref q4, .int 0, .ref q5, .int 0, .int 0, .int 0, .int 0, .long 0, .int (-1), .int 0, .int 0, .ref q6, .int 0, .ref q7, .ref q8, .int 0, .ref q9, .ref q10, .int 0, .int 0, .null, .null, .int 0, .null, .null, .int 0, .long 0, .long 0, .int 0, .int 0, .int 0, .int 0, .int 0, .null, .int 0, .int 0, .null, .int 0, .null, .null, .null, .int 0, .null, .null, .long 0, .null, .int 0])), (q1, (arI G 7 (fun _ => 0))), (q2, (arI G 5740 (fun _ => 0))), (q3, (arI G 11480 (fun _ => 0))), (q4, (arZ G 2 (fun _ => 0))), (q5, (arI G 400 (fun _ => 0))), (q6, (arI G 96 (fun _ => 0))), (q7, (arI G 400 (fun _ => 0))), (q8, (arI G 400 (fun _ => 0))), (q9, (arI G 400 (fun _ => 0))), (q10, (arI G 400 (fun _ => 0))), (q11, (arJ G 8 (vp_updL (fun _ => 0) 0 7734899)))] hP hD ?_
  clear hP hD
  intro hP hD
  refine lv_dup hx hb dX12_init_106 rfl ?_
  refine lv_iconst (v := 1) hx hb dX12_init_107 (by decide +kernel) ?_
  refine W.eq (g2 := F0 m 108 ls [.int 1, .ref q11, .ref q11, .ref a0]) rfl ?_
  refine lv_ldc2 (v := 24) hx hb hown (hts _ kl_X12_47) dX12_init_108 ?_
  refine va_last hx hb hK hP hD hS 11 1 rfl rfl (i := 1) (x := 24) (by unfold vp_in; decide) dX12_init_111 ?_
  clear hP hD hS
  intro H locs hP hD hS
  refine g5_rs [(a0, .inr (12, [.int 0, .int 0, .ref q1, .ref q2, .ref q3, .ref q4, .int 0, .ref q5, .int 0, .int 0, .int 0, .int 0, .long 0, .int (-1), .int 0, .int 0, .ref q6, .int 0, .ref q7, .ref q8, .int 0, .ref q9, .ref q10, .int 0, .int 0, .null, .null, .int 0, .null, .null, .int 0, .long 0, .long 0, .int 0, .int 0, .int 0, .int 0, .int 0, .null, .int 0, .int 0, .null, .int 0, .null, .null, .null, .int 0, .null, .null, .long 0, .null, .int 0])), (q1, (arI G 7 (fun _ => 0))), (q2, (arI G 5740 (fun _ => 0))), (q3, (arI G 11480 (fun _ => 0))), (q4, (arZ G 2 (fun _ => 0))), (q5, (arI G 400 (fun _ => 0))), (q6, (arI G 96 (fun _ => 0))), (q7, (arI G 400 (fun _ => 0))), (q8, (arI G 400 (fun _ => 0))), (q9, (arI G 400 (fun _ => 0))), (q10, (arI G 400 (fun _ => 0))), (q11, (arJ G 8 (vp_updL (vp_updL (fun _ => 0) 0 7734899) 1 24)))] hP hD ?_
  clear hP hD
  intro hP hD
  refine lv_dup hx hb dX12_init_112 rfl ?_
  refine lv_iconst (v := 2) hx hb dX12_init_113 (by decide +kernel) ?_
  refine lv_ldc2 (v := 25) hx hb hown (hts _ kl_X12_49) dX12_init_114 ?_
  refine W.eq (g2 := F0 m 117 ls [.long 25, .int 2, .ref q11, .ref q11, .ref a0]) rfl ?_
  refine va_last hx hb hK hP hD hS 11 1 rfl rfl (i := 2) (x := 25) (by unfold vp_in; decide) dX12_init_117 ?_
  clear hP hD hS
  intro H locs hP hD hS
  refine g5_rs [(a0, .inr (12, [.int 0, .int 0, .ref q1, .ref q2, .ref q3, .ref q4, .int 0, .ref q5, .int 0, .int 0, .int 0, .int 0, .long 0, .int (-1), .int 0, .int 0, .ref q6, .int 0, .ref q7, .ref q8, .int 0, .ref q9, .ref q10, .int 0, .int 0, .null, .null, .int 0, .null, .null, .int 0, .long 0, .long 0, .int 0, .int 0, .int 0, .int 0, .int 0, .null, .int 0, .int 0, .null, .int 0, .null, .null, .null, .int 0, .null, .null, .long 0, .null, .int 0])), (q1, (arI G 7 (fun _ => 0))), (q2, (arI G 5740 (fun _ => 0))), (q3, (arI G 11480 (fun _ => 0))), (q4, (arZ G 2 (fun _ => 0))), (q5, (arI G 400 (fun _ => 0))), (q6, (arI G 96 (fun _ => 0))), (q7, (arI G 400 (fun _ => 0))), (q8, (arI G 400 (fun _ => 0))), (q9, (arI G 400 (fun _ => 0))), (q10, (arI G 400 (fun _ => 0))), (q11, (arJ G 8 (vp_updL (vp_updL (vp_updL (fun _ => 0) 0 7734899) 1 24) 2 25)))] hP hD ?_
  clear hP hD
  intro hP hD
  refine lv_dup hx hb dX12_init_118 rfl ?_
  refine lv_iconst (v := 3) hx hb dX12_init_119 (by decide +kernel) ?_
  refine lv_ldc2 (v := 278194) hx hb hown (hts _ kl_X12_51) dX12_init_120 ?_
  refine va_last hx hb hK hP hD hS 11 1 rfl rfl (i := 3) (x := 278194) (by unfold vp_in; decide) dX12_init_123 ?_
  clear hP hD hS
  intro H locs hP hD hS
  refine g5_rs [(a0, .inr (12, [.int 0, .int 0, .ref q1, .ref q2, .ref q3, .ref q4, .int 0, .ref q5, .int 0, .int 0, .int 0, .int 0, .long 0, .int (-1), .int 0, .int 0, .ref q6, .int 0, .ref q7, .ref q8, .int 0, .ref q9, .ref q10, .int 0, .int 0, .null, .null, .int 0, .null, .null, .int 0, .long 0, .long 0, .int 0, .int 0, .int 0, .int 0, .int 0, .null, .int 0, .int 0, .null, .int 0, .null, .null, .null, .int 0, .null, .null, .long 0, .null, .int 0])), (q1, (arI G 7 (fun _ => 0))), (q2, (arI G 5740 (fun _ => 0))), (q3, (arI G 11480 (fun _ => 0))), (q4, (arZ G 2 (fun _ => 0))), (q5, (arI G 400 (fun _ => 0))), (q6, (arI G 96 (fun _ => 0))), (q7, (arI G 400 (fun _ => 0))), (q8, (arI G 400 (fun _ => 0))), (q9, (arI G 400 (fun _ => 0))), (q10, (arI G 400 (fun _ => 0))), (q11, (arJ G 8 (vp_updL (vp_updL (vp_updL (vp_updL (fun _ => 0) 0 7734899) 1 24) 2 25) 3 278194)))] hP hD ?_
  clear hP hD
  intro hP hD
  refine W.eq (g2 := F0 m 124 ls [.ref q11, .ref a0]) rfl ?_
  refine lv_dup hx hb dX12_init_124 rfl ?_
  refine lv_iconst (v := 4) hx hb dX12_init_125 (by decide +kernel) ?_
  refine lv_ldc2 (v := 23609) hx hb hown (hts _ kl_X12_53) dX12_init_126 ?_
  refine va_last hx hb hK hP hD hS 11 1 rfl rfl (i := 4) (x := 23609) (by unfold vp_in; decide) dX12_init_129 ?_
  clear hP hD hS
  intro H locs hP hD hS
  refine g5_rs [(a0, .inr (12, [.int 0, .int 0, .ref q1, .ref q2, .ref q3, .ref q4, .int 0, .ref q5, .int 0, .int 0, .int 0, .int 0, .long 0, .int (-1), .int 0, .int 0, .ref q6, .int 0, .ref q7, .ref q8, .int 0, .ref q9, .ref q10, .int 0, .int 0, .null, .null, .int 0, .null, .null, .int 0, .long 0, .long 0, .int 0, .int 0, .int 0, .int 0, .int 0, .null, .int 0, .int 0, .null, .int 0, .null, .null, .null, .int 0, .null, .null, .long 0, .null, .int 0])), (q1, (arI G 7 (fun _ => 0))), (q2, (arI G 5740 (fun _ => 0))), (q3, (arI G 11480 (fun _ => 0))), (q4, (arZ G 2 (fun _ => 0))), (q5, (arI G 400 (fun _ => 0))), (q6, (arI G 96 (fun _ => 0))), (q7, (arI G 400 (fun _ => 0))), (q8, (arI G 400 (fun _ => 0))), (q9, (arI G 400 (fun _ => 0))), (q10, (arI G 400 (fun _ => 0))), (q11, (arJ G 8 (vp_updL (vp_updL (vp_updL (vp_updL (vp_updL (fun _ => 0) 0 7734899) 1 24) 2 25) 3 278194) 4 23609)))] hP hD ?_
  clear hP hD
  intro hP hD
  refine lv_dup hx hb dX12_init_130 rfl ?_
  refine W.eq (g2 := F0 m 131 ls [.ref q11, .ref q11, .ref a0]) rfl ?_
  refine lv_iconst (v := 5) hx hb dX12_init_131 (by decide +kernel) ?_
  refine lv_ldc2 (v := 81049) hx hb hown (hts _ kl_X12_55) dX12_init_132 ?_
  refine va_last hx hb hK hP hD hS 11 1 rfl rfl (i := 5) (x := 81049) (by unfold vp_in; decide) dX12_init_135 ?_
  clear hP hD hS
  intro H locs hP hD hS
  refine g5_rs [(a0, .inr (12, [.int 0, .int 0, .ref q1, .ref q2, .ref q3, .ref q4, .int 0, .ref q5, .int 0, .int 0, .int 0, .int 0, .long 0, .int (-1), .int 0, .int 0, .ref q6, .int 0, .ref q7, .ref q8, .int 0, .ref q9, .ref q10, .int 0, .int 0, .null, .null, .int 0, .null, .null, .int 0, .long 0, .long 0, .int 0, .int 0, .int 0, .int 0, .int 0, .null, .int 0, .int 0, .null, .int 0, .null, .null, .null, .int 0, .null, .null, .long 0, .null, .int 0])), (q1, (arI G 7 (fun _ => 0))), (q2, (arI G 5740 (fun _ => 0))), (q3, (arI G 11480 (fun _ => 0))), (q4, (arZ G 2 (fun _ => 0))), (q5, (arI G 400 (fun _ => 0))), (q6, (arI G 96 (fun _ => 0))), (q7, (arI G 400 (fun _ => 0))), (q8, (arI G 400 (fun _ => 0))), (q9, (arI G 400 (fun _ => 0))), (q10, (arI G 400 (fun _ => 0))), (q11, (arJ G 8 (vp_updL (vp_updL (vp_updL (vp_updL (vp_updL (vp_updL (fun _ => 0) 0 7734899) 1 24) 2 25) 3 278194) 4 23609) 5 81049)))] hP hD ?_
  clear hP hD
  intro hP hD
  refine lv_dup hx hb dX12_init_136 rfl ?_
  refine lv_bipush (v := 6) hx hb dX12_init_137 (by decide +kernel) ?_
  refine W.eq (g2 := F0 m 139 ls [.int 6, .ref q11, .ref q11, .ref a0]) rfl ?_
  refine lv_ldc2 (v := 20583955) hx hb hown (hts _ kl_X12_57) dX12_init_139 ?_
  refine va_last hx hb hK hP hD hS 11 1 rfl rfl (i := 6) (x := 20583955) (by unfold vp_in; decide) dX12_init_142 ?_
  clear hP hD hS
  intro H locs hP hD hS
  refine g5_rs [(a0, .inr (12, [.int 0, .int 0, .ref q1, .ref q2, .ref q3, .ref q4, .int 0, .ref q5, .int 0, .int 0, .int 0, .int 0, .long 0, .int (-1), .int 0, .int 0, .ref q6, .int 0, .ref q7, .ref q8, .int 0, .ref q9, .ref q10, .int 0, .int 0, .null, .null, .int 0, .null, .null, .int 0, .long 0, .long 0, .int 0, .int 0, .int 0, .int 0, .int 0, .null, .int 0, .int 0, .null, .int 0, .null, .null, .null, .int 0, .null, .null, .long 0, .null, .int 0])), (q1, (arI G 7 (fun _ => 0))), (q2, (arI G 5740 (fun _ => 0))), (q3, (arI G 11480 (fun _ => 0))), (q4, (arZ G 2 (fun _ => 0))), (q5, (arI G 400 (fun _ => 0))), (q6, (arI G 96 (fun _ => 0))), (q7, (arI G 400 (fun _ => 0))), (q8, (arI G 400 (fun _ => 0))), (q9, (arI G 400 (fun _ => 0))), (q10, (arI G 400 (fun _ => 0))), (q11, (arJ G 8 (vp_updL (vp_updL (vp_updL (vp_updL (vp_updL (vp_updL (vp_updL (fun _ => 0) 0 7734899) 1 24) 2 25) 3 278194) 4 23609) 5 81049) 6 20583955)))] hP hD ?_
  clear hP hD
  intro hP hD
  refine lv_dup hx hb dX12_init_143 rfl ?_
  refine lv_bipush (v := 7) hx hb dX12_init_144 (by decide +kernel) ?_
  refine lv_ldc2 (v := 86285588) hx hb hown (hts _ kl_X12_59) dX12_init_146 ?_
  refine W.eq (g2 := F0 m 149 ls [.long 86285588, .int 7, .ref q11, .ref q11, .ref a0]) rfl ?_
  refine va_last hx hb hK hP hD hS 11 1 rfl rfl (i := 7) (x := 86285588) (by unfold vp_in; decide) dX12_init_149 ?_
  clear hP hD hS
  intro H locs hP hD hS
  refine g5_rs [(a0, .inr (12, [.int 0, .int 0, .ref q1, .ref q2, .ref q3, .ref q4, .int 0, .ref q5, .int 0, .int 0, .int 0, .int 0, .long 0, .int (-1), .int 0, .int 0, .ref q6, .int 0, .ref q7, .ref q8, .int 0, .ref q9, .ref q10, .int 0, .int 0, .null, .null, .int 0, .null, .null, .int 0, .long 0, .long 0, .int 0, .int 0, .int 0, .int 0, .int 0, .null, .int 0, .int 0, .null, .int 0, .null, .null, .null, .int 0, .null, .null, .long 0, .null, .int 0])), (q1, (arI G 7 (fun _ => 0))), (q2, (arI G 5740 (fun _ => 0))), (q3, (arI G 11480 (fun _ => 0))), (q4, (arZ G 2 (fun _ => 0))), (q5, (arI G 400 (fun _ => 0))), (q6, (arI G 96 (fun _ => 0))), (q7, (arI G 400 (fun _ => 0))), (q8, (arI G 400 (fun _ => 0))), (q9, (arI G 400 (fun _ => 0))), (q10, (arI G 400 (fun _ => 0))), (q11, (arJ G 8 (vp_updL (vp_updL (vp_updL (vp_updL (vp_updL (vp_updL (vp_updL (vp_updL (fun _ => 0) 0 7734899) 1 24) 2 25) 3 278194) 4 23609) 5 81049) 6 20583955) 7 86285588)))] hP hD ?_
  clear hP hD
  intro hP hD
  refine va_putF (D := G.1) (ci := 12) (v := .ref q11) (ty := .array .long) (C := RX12) (T := TX12) (N := 52) hx hb hts inG_X12 tyX12 tyX12_ok nmX12 hown hK hP hD hS 0 rfl rfl 25 (by decide +kernel) (hts _ fl_X12_61) (fun _ h9 => h9) rfl hin rfl (by decide +kernel) rfl rfl (Nat.le_of_ble_eq_true rfl) dX12_init_150 ?_
  clear hP hD hS
  intro H locs hP hD hS
  refine g5_rs [(a0, .inr (12, [.int 0, .int 0, .ref q1, .ref q2, .ref q3, .ref q4, .int 0, .ref q5, .int 0, .int 0, .int 0, .int 0, .long 0, .int (-1), .int 0, .int 0, .ref q6, .int 0, .ref q7, .ref q8, .int 0, .ref q9, .ref q10, .int 0, .int 0, .ref q11, .null, .int 0, .null, .null, .int 0, .long 0, .long 0, .int 0, .int 0, .int 0, .int 0, .int 0, .null, .int 0, .int 0, .null, .int 0, .null, .null, .null, .int 0, .null, .null, .long 0, .null, .int 0])), (q1, (arI G 7 (fun _ => 0))), (q2, (arI G 5740 (fun _ => 0))), (q3, (arI G 11480 (fun _ => 0))), (q4, (arZ G 2 (fun _ => 0))), (q5, (arI G 400 (fun _ => 0))), (q6, (arI G 96 (fun _ => 0))), (q7, (arI G 400 (fun _ => 0))), (q8, (arI G 400 (fun _ => 0))), (q9, (arI G 400 (fun _ => 0))), (q10, (arI G 400 (fun _ => 0))), (q11, (arJ G 8 (vp_updL (vp_updL (vp_updL (vp_updL (vp_updL (vp_updL (vp_updL (vp_updL (fun _ => 0) 0 7734899) 1 24) 2 25) 3 278194) 4 23609) 5 81049) 6 20583955) 7 86285588)))] hP hD ?_
  clear hP hD
  intro hP hD
  refine lv_aload_n hx hb dX12_init_153 rfl (lv_at hl 0 rfl) ?_
  refine lv_iconst (v := 4) hx hb dX12_init_154 (by decide +kernel) ?_
  refine va_newa (D := G.1) (atype := .long) (ty := .long) hx hb (hts _ acl_J) rfl hK hP hD hS hA (n := 4) (N' := 4) (a0 := (4, .inr (.inl (fun _ => 0)))) (fun _ => rfl) (by decide +kernel) (by decide +kernel) (by decide +kernel) (Nat.le_of_ble_eq_true rfl) (Nat.le_of_ble_eq_true rfl) dX12_init_155 (fun q12 cA H hKn hP hD hS => ?_)
  obtain rfl : cA = G.2 1 := g5_cJ hKn
  refine g5_rs [(a0, .inr (12, [.int 0, .int 0, .ref q1, .ref q2, .ref q3, .ref q4, .int 0, .ref q5, .int 0, .int 0, .int 0, .int 0, .long 0, .int (-1), .int 0, .int 0, .ref q6, .int 0, .ref q7, .ref q8, .int 0, .ref q9, .ref q10, .int 0, .int 0, .ref q11, .null, .int 0, .null, .null, .int 0, .long 0, .long 0, .int 0, .int 0, .int 0, .int 0, .int 0, .null, .int 0, .int 0, .null, .int 0, .null, .null, .null, .int 0, .null, .null, .long 0, .null, .int 0])), (q1, (arI G 7 (fun _ => 0))), (q2, (arI G 5740 (fun _ => 0))), (q3, (arI G 11480 (fun _ => 0))), (q4, (arZ G 2 (fun _ => 0))), (q5, (arI G 400 (fun _ => 0))), (q6, (arI G 96 (fun _ => 0))), (q7, (arI G 400 (fun _ => 0))), (q8, (arI G 400 (fun _ => 0))), (q9, (arI G 400 (fun _ => 0))), (q10, (arI G 400 (fun _ => 0))), (q11, (arJ G 8 (vp_updL (vp_updL (vp_updL (vp_updL (vp_updL (vp_updL (vp_updL (vp_updL (fun _ => 0) 0 7734899) 1 24) 2 25) 3 278194) 4 23609) 5 81049) 6 20583955) 7 86285588))), (q12, (arJ G 4 (fun _ => 0)))] hP hD ?_
  clear hP hD
  intro hP hD
  refine W.widen (k := 12) (n := 19337) (Nat.le_of_ble_eq_true rfl) (Nat.le_of_ble_eq_true rfl) ?_
  refine W.eq (g2 := F0 m 157 ls [.ref q12, .ref a0]) rfl ?_
  refine lv_dup hx hb dX12_init_157 rfl ?_
  refine lv_iconst (v := 0) hx hb dX12_init_158 (by decide +kernel) ?_
  refine lv_ldc2 (v := 394885) hx hb hown (hts _ kl_X12_65) dX12_init_159 ?_
  refine va_last hx hb hK hP hD hS 12 1 rfl rfl (i := 0) (x := 394885) (by unfold vp_in; decide) dX12_init_162 ?_
  clear hP hD hS
  intro H locs hP hD hS
  refine g5_rs [(a0, .inr (12, [.int 0, .int 0, .ref q1, .ref q2, .ref q3, .ref q4, .int 0, .ref q5, .int 0, .int 0, .int 0, .int 0, .long 0, .int (-1), .int 0, .int 0, .ref q6, .int 0, .ref q7, .ref q8, .int 0, .ref q9, .ref q10, .int 0, .int 0, .ref q11, .null, .int 0, .null, .null, .int 0, .long 0, .long 0, .int 0, .int 0, .int 0, .int 0, .int 0, .null, .int 0, .int 0, .null, .int 0, .null, .null, .null, .int 0, .null, .null, .long 0, .null, .int 0])), (q1, (arI G 7 (fun _ => 0))), (q2, (arI G 5740 (fun _ => 0))), (q3, (arI G 11480 (fun _ => 0))), (q4, (arZ G 2 (fun _ => 0))), (q5, (arI G 400 (fun _ => 0))), (q6, (arI G 96 (fun _ => 0))), (q7, (arI G 400 (fun _ => 0))), (q8, (arI G 400 (fun _ => 0))), (q9, (arI G 400 (fun _ => 0))), (q10, (arI G 400 (fun _ => 0))), (q11, (arJ G 8 (vp_updL (vp_updL (vp_updL (vp_updL (vp_updL (vp_updL (vp_updL (vp_updL (fun _ => 0) 0 7734899) 1 24) 2 25) 3 278194) 4 23609) 5 81049) 6 20583955) 7 86285588))), (q12, (arJ G 4 (vp_updL (fun _ => 0) 0 394885)))] hP hD ?_
  clear hP hD
  intro hP hD
  refine lv_dup hx hb dX12_init_163 rfl ?_
  refine W.eq (g2 := F0 m 164 ls [.ref q12, .ref q12, .ref a0]) rfl ?_
  refine lv_iconst (v := 1) hx hb dX12_init_164 (by decide +kernel) ?_
  refine lv_ldc2 (v := 153204) hx hb hown (hts _ kl_X12_67) dX12_init_165 ?_
  refine va_last hx hb hK hP hD hS 12 1 rfl rfl (i := 1) (x := 153204) (by unfold vp_in; decide) dX12_init_168 ?_
  clear hP hD hS
  intro H locs hP hD hS
  refine g5_rs [(a0, .inr (12, [.int 0, .int 0, .ref q1, .ref q2, .ref q3, .ref q4, .int 0, .ref q5, .int 0, .int 0, .int 0, .int 0, .long 0, .int (-1), .int 0, .int 0, .ref q6, .int 0, .ref q7, .ref q8, .int 0, .ref q9, .ref q10, .int 0, .int 0, .ref q11, .null, .int 0, .null, .null, .int 0, .long 0, .long 0, .int 0, .int 0, .int 0, .int 0, .int 0, .null, .int 0, .int 0, .null, .int 0, .null, .null, .null, .int 0, .null, .null, .long 0, .null, .int 0])), (q1, (arI G 7 (fun _ => 0))), (q2, (arI G 5740 (fun _ => 0))), (q3, (arI G 11480 (fun _ => 0))), (q4, (arZ G 2 (fun _ => 0))), (q5, (arI G 400 (fun _ => 0))), (q6, (arI G 96 (fun _ => 0))), (q7, (arI G 400 (fun _ => 0))), (q8, (arI G 400 (fun _ => 0))), (q9, (arI G 400 (fun _ => 0))), (q10, (arI G 400 (fun _ => 0))), (q11, (arJ G 8 (vp_updL (vp_updL (vp_updL (vp_updL (vp_updL (vp_updL (vp_updL (vp_updL (fun _ => 0) 0 7734899) 1 24) 2 25) 3 278194) 4 23609) 5 81049) 6 20583955) 7 86285588))), (q12, (arJ G 4 (vp_updL (vp_updL (fun _ => 0) 0 394885) 1 153204)))] hP hD ?_
  clear hP hD
  intro hP hD
  refine lv_dup hx hb dX12_init_169 rfl ?_
  refine lv_iconst (v := 2) hx hb dX12_init_170 (by decide +kernel) ?_
  refine W.eq (g2 := F0 m 171 ls [.int 2, .ref q12, .ref q12, .ref a0]) rfl ?_
  refine lv_ldc2 (v := 117118547) hx hb hown (hts _ kl_X12_69) dX12_init_171 ?_
  refine va_last hx hb hK hP hD hS 12 1 rfl rfl (i := 2) (x := 117118547) (by unfold vp_in; decide) dX12_init_174 ?_
  clear hP hD hS
  intro H locs hP hD hS
  refine g5_rs [(a0, .inr (12, [.int 0, .int 0, .ref q1, .ref q2, .ref q3, .ref q4, .int 0, .ref q5, .int 0, .int 0, .int 0, .int 0, .long 0, .int (-1), .int 0, .int 0, .ref q6, .int 0, .ref q7, .ref q8, .int 0, .ref q9, .ref q10, .int 0, .int 0, .ref q11, .null, .int 0, .null, .null, .int 0, .long 0, .long 0, .int 0, .int 0, .int 0, .int 0, .int 0, .null, .int 0, .int 0, .null, .int 0, .null, .null, .null, .int 0, .null, .null, .long 0, .null, .int 0])), (q1, (arI G 7 (fun _ => 0))), (q2, (arI G 5740 (fun _ => 0))), (q3, (arI G 11480 (fun _ => 0))), (q4, (arZ G 2 (fun _ => 0))), (q5, (arI G 400 (fun _ => 0))), (q6, (arI G 96 (fun _ => 0))), (q7, (arI G 400 (fun _ => 0))), (q8, (arI G 400 (fun _ => 0))), (q9, (arI G 400 (fun _ => 0))), (q10, (arI G 400 (fun _ => 0))), (q11, (arJ G 8 (vp_updL (vp_updL (vp_updL (vp_updL (vp_updL (vp_updL (vp_updL (vp_updL (fun _ => 0) 0 7734899) 1 24) 2 25) 3 278194) 4 23609) 5 81049) 6 20583955) 7 86285588))), (q12, (arJ G 4 (vp_updL (vp_updL (vp_updL (fun _ => 0) 0 394885) 1 153204) 2 117118547)))] hP hD ?_
  clear hP hD
  intro hP hD
  refine lv_dup hx hb dX12_init_175 rfl ?_
  refine lv_iconst (v := 3) hx hb dX12_init_176 (by decide +kernel) ?_
  refine lv_ldc2 (v := 3544114) hx hb hown (hts _ kl_X12_71) dX12_init_177 ?_
  refine W.eq (g2 := F0 m 180 ls [.long 3544114, .int 3, .ref q12, .ref q12, .ref a0]) rfl ?_
  refine va_last hx hb hK hP hD hS 12 1 rfl rfl (i := 3) (x := 3544114) (by unfold vp_in; decide) dX12_init_180 ?_
  clear hP hD hS
  intro H locs hP hD hS
  refine g5_rs [(a0, .inr (12, [.int 0, .int 0, .ref q1, .ref q2, .ref q3, .ref q4, .int 0, .ref q5, .int 0, .int 0, .int 0, .int 0, .long 0, .int (-1), .int 0, .int 0, .ref q6, .int 0, .ref q7, .ref q8, .int 0, .ref q9, .ref q10, .int 0, .int 0, .ref q11, .null, .int 0, .null, .null, .int 0, .long 0, .long 0, .int 0, .int 0, .int 0, .int 0, .int 0, .null, .int 0, .int 0, .null, .int 0, .null, .null, .null, .int 0, .null, .null, .long 0, .null, .int 0])), (q1, (arI G 7 (fun _ => 0))), (q2, (arI G 5740 (fun _ => 0))), (q3, (arI G 11480 (fun _ => 0))), (q4, (arZ G 2 (fun _ => 0))), (q5, (arI G 400 (fun _ => 0))), (q6, (arI G 96 (fun _ => 0))), (q7, (arI G 400 (fun _ => 0))), (q8, (arI G 400 (fun _ => 0))), (q9, (arI G 400 (fun _ => 0))), (q10, (arI G 400 (fun _ => 0))), (q11, (arJ G 8 (vp_updL (vp_updL (vp_updL (vp_updL (vp_updL (vp_updL (vp_updL (vp_updL (fun _ => 0) 0 7734899) 1 24) 2 25) 3 278194) 4 23609) 5 81049) 6 20583955) 7 86285588))), (q12, (arJ G 4 (vp_updL (vp_updL (vp_updL (vp_updL (fun _ => 0) 0 394885) 1 153204) 2 117118547) 3 3544114)))] hP hD ?_
  clear hP hD
  intro hP hD
  refine va_putF (D := G.1) (ci := 12) (v := .ref q12) (ty := .array .long) (C := RX12) (T := TX12) (N := 52) hx hb hts inG_X12 tyX12 tyX12_ok nmX12 hown hK hP hD hS 0 rfl rfl 26 (by decide +kernel) (hts _ fl_X12_73) (fun _ h9 => h9) rfl hin rfl (by decide +kernel) rfl rfl (Nat.le_of_ble_eq_true rfl) dX12_init_181 ?_
  clear hP hD hS
  intro H locs hP hD hS
  refine g5_rs [(a0, .inr (12, [.int 0, .int 0, .ref q1, .ref q2, .ref q3, .ref q4, .int 0, .ref q5, .int 0, .int 0, .int 0, .int 0, .long 0, .int (-1), .int 0, .int 0, .ref q6, .int 0, .ref q7, .ref q8, .int 0, .ref q9, .ref q10, .int 0, .int 0, .ref q11, .ref q12, .int 0, .null, .null, .int 0, .long 0, .long 0, .int 0, .int 0, .int 0, .int 0, .int 0, .null, .int 0, .int 0, .null, .int 0, .null, .null, .null, .int 0, .null, .null, .long 0, .null, .int 0])), (q1, (arI G 7 (fun _ => 0))), (q2, (arI G 5740 (fun _ => 0))), (q3, (arI G 11480 (fun _ => 0))), (q4, (arZ G 2 (fun _ => 0))), (q5, (arI G 400 (fun _ => 0))), (q6, (arI G 96 (fun _ => 0))), (q7, (arI G 400 (fun _ => 0))), (q8, (arI G 400 (fun _ => 0))), (q9, (arI G 400 (fun _ => 0))), (q10, (arI G 400 (fun _ => 0))), (q11, (arJ G 8 (vp_updL (vp_updL (vp_updL (vp_updL (vp_updL (vp_updL (vp_updL (vp_updL (fun _ => 0) 0 7734899) 1 24) 2 25) 3 278194) 4 23609) 5 81049) 6 20583955) 7 86285588))), (q12, (arJ G 4 (vp_updL (vp_updL (vp_updL (vp_updL (fun _ => 0) 0 394885) 1 153204) 2 117118547) 3 3544114)))] hP hD ?_
  clear hP hD
  intro hP hD
  refine lv_aload_n hx hb dX12_init_184 rfl (lv_at hl 0 rfl) ?_
  refine lv_bipush (v := 13) hx hb dX12_init_185 (by decide +kernel) ?_
  refine va_newa (D := G.1) (atype := .long) (ty := .long) hx hb (hts _ acl_J) rfl hK hP hD hS hA (n := 13) (N' := 13) (a0 := (13, .inr (.inl (fun _ => 0)))) (fun _ => rfl) (by decide +kernel) (by decide +kernel) (by decide +kernel) (Nat.le_of_ble_eq_true rfl) (Nat.le_of_ble_eq_true rfl) dX12_init_187 (fun q13 cA H hKn hP hD hS => ?_)
  obtain rfl : cA = G.2 1 := g5_cJ hKn
  refine g5_rs [(a0, .inr (12, [.int 0, .int 0, .ref q1, .ref q2, .ref q3, .ref q4, .int 0, .ref q5, .int 0, .int 0, .int 0, .int 0, .long 0, .int (-1), .int 0, .int 0, .ref q6, .int 0, .ref q7, .ref q8, .int 0, .ref q9, .ref q10, .int 0, .int 0, .ref q11, .ref q12, .int 0, .null, .null, .int 0, .long 0, .long 0, .int 0, .int 0, .int 0, .int 0, .int 0, .null, .int 0, .int 0, .null, .int 0, .null, .null, .null, .int 0, .null, .null, .long 0, .null, .int 0])), (q1, (arI G 7 (fun _ => 0))), (q2, (arI G 5740 (fun _ => 0))), (q3, (arI G 11480 (fun _ => 0))), (q4, (arZ G 2 (fun _ => 0))), (q5, (arI G 400 (fun _ => 0))), (q6, (arI G 96 (fun _ => 0))), (q7, (arI G 400 (fun _ => 0))), (q8, (arI G 400 (fun _ => 0))), (q9, (arI G 400 (fun _ => 0))), (q10, (arI G 400 (fun _ => 0))), (q11, (arJ G 8 (vp_updL (vp_updL (vp_updL (vp_updL (vp_updL (vp_updL (vp_updL (vp_updL (fun _ => 0) 0 7734899) 1 24) 2 25) 3 278194) 4 23609) 5 81049) 6 20583955) 7 86285588))), (q12, (arJ G 4 (vp_updL (vp_updL (vp_updL (vp_updL (fun _ => 0) 0 394885) 1 153204) 2 117118547) 3 3544114))), (q13, (arJ G 13 (fun _ => 0)))] hP hD ?_
  clear hP hD
  intro hP hD
  refine W.widen (k := 13) (n := 19350) (Nat.le_of_ble_eq_true rfl) (Nat.le_of_ble_eq_true rfl) ?_
  refine W.eq (g2 := F0 m 189 ls [.ref q13, .ref a0]) rfl ?_
  refine va_putF (D := G.1) (ci := 12) (v := .ref q13) (ty := .array .long) (C := RX12) (T := TX12) (N := 52) hx hb hts inG_X12 tyX12 tyX12_ok nmX12 hown hK hP hD hS 0 rfl rfl 28 (by decide +kernel) (hts _ fl_X12_76) (fun _ h9 => h9) rfl hin rfl (by decide +kernel) rfl rfl (Nat.le_of_ble_eq_true rfl) dX12_init_189 ?_
  clear hP hD hS
  intro H locs hP hD hS
  refine g5_rs [(a0, .inr (12, [.int 0, .int 0, .ref q1, .ref q2, .ref q3, .ref q4, .int 0, .ref q5, .int 0, .int 0, .int 0, .int 0, .long 0, .int (-1), .int 0, .int 0, .ref q6, .int 0, .ref q7, .ref q8, .int 0, .ref q9, .ref q10, .int 0, .int 0, .ref q11, .ref q12, .int 0, .ref q13, .null, .int 0, .long 0, .long 0, .int 0, .int 0, .int 0, .int 0, .int 0, .null, .int 0, .int 0, .null, .int 0, .null, .null, .null, .int 0, .null, .null, .long 0, .null, .int 0])), (q1, (arI G 7 (fun _ => 0))), (q2, (arI G 5740 (fun _ => 0))), (q3, (arI G 11480 (fun _ => 0))), (q4, (arZ G 2 (fun _ => 0))), (q5, (arI G 400 (fun _ => 0))), (q6, (arI G 96 (fun _ => 0))), (q7, (arI G 400 (fun _ => 0))), (q8, (arI G 400 (fun _ => 0))), (q9, (arI G 400 (fun _ => 0))), (q10, (arI G 400 (fun _ => 0))), (q11, (arJ G 8 (vp_updL (vp_updL (vp_updL (vp_updL (vp_updL (vp_updL (vp_updL (vp_updL (fun _ => 0) 0 7734899) 1 24) 2 25) 3 278194) 4 23609) 5 81049) 6 20583955) 7 86285588))), (q12, (arJ G 4 (vp_updL (vp_updL (vp_updL (vp_updL (fun _ => 0) 0 394885) 1 153204) 2 117118547) 3 3544114))), (q13, (arJ G 13 (fun _ => 0)))] hP hD ?_
  clear hP hD
  intro hP hD
  refine lv_aload_n hx hb dX12_init_192 rfl (lv_at hl 0 rfl) ?_
  refine lv_sipush (v := 400) hx hb dX12_init_193 (by decide +kernel) ?_
  refine va_newa (D := G.1) (atype := .long) (ty := .long) hx hb (hts _ acl_J) rfl hK hP hD hS hA (n := 400) (N' := 400) (a0 := (400, .inr (.inl (fun _ => 0)))) (fun _ => rfl) (by decide +kernel) (by decide +kernel) (by decide +kernel) (Nat.le_of_ble_eq_true rfl) (Nat.le_of_ble_eq_true rfl) dX12_init_196 (fun q14 cA H hKn hP hD hS => ?_)
  obtain rfl : cA = G.2 1 := g5_cJ hKn
  refine g5_rs [(a0, .inr (12, [.int 0, .int 0, .ref q1, .ref q2, .ref q3, .ref q4, .int 0, .ref q5, .int 0, .int 0, .int 0, .int 0, .long 0, .int (-1), .int 0, .int 0, .ref q6, .int 0, .ref q7, .ref q8, .int 0, .ref q9, .ref q10, .int 0, .int 0, .ref q11, .ref q12, .int 0, .ref q13, .null, .int 0, .long 0, .long 0, .int 0, .int 0, .int 0, .int 0, .int 0, .null, .int 0, .int 0, .null, .int 0, .null, .null, .null, .int 0, .null, .null, .long 0, .null, .int 0])), (q1, (arI G 7 (fun _ => 0))), (q2, (arI G 5740 (fun _ => 0))), (q3, (arI G 11480 (fun _ => 0))), (q4, (arZ G 2 (fun _ => 0))), (q5, (arI G 400 (fun _ => 0))), (q6, (arI G 96 (fun _ => 0))), (q7, (arI G 400 (fun _ => 0))), (q8, (arI G 400 (fun _ => 0))), (q9, (arI G 400 (fun _ => 0))), (q10, (arI G 400 (fun _ => 0))), (q11, (arJ G 8 (vp_updL (vp_updL (vp_updL (vp_updL (vp_updL (vp_updL (vp_updL (vp_updL (fun _ => 0) 0 7734899) 1 24) 2 25) 3 278194) 4 23609) 5 81049) 6 20583955) 7 86285588))), (q12, (arJ G 4 (vp_updL (vp_updL (vp_updL (vp_updL (fun _ => 0) 0 394885) 1 153204) 2 117118547) 3 3544114))), (q13, (arJ G 13 (fun _ => 0))), (q14, (arJ G 400 (fun _ => 0)))] hP hD ?_
  clear hP hD
  intro hP hD
  refine W.widen (k := 14) (n := 19750) (Nat.le_of_ble_eq_true rfl) (Nat.le_of_ble_eq_true rfl) ?_
  refine va_putF (D := G.1) (ci := 12) (v := .ref q14) (ty := .array .long) (C := RX12) (T := TX12) (N := 52) hx hb hts inG_X12 tyX12 tyX12_ok nmX12 hown hK hP hD hS 0 rfl rfl 29 (by decide +kernel) (hts _ fl_X12_79) (fun _ h9 => h9) rfl hin rfl (by decide +kernel) rfl rfl (Nat.le_of_ble_eq_true rfl) dX12_init_198 ?_
  clear hP hD hS
  intro H locs hP hD hS
  refine g5_rs [(a0, .inr (12, [.int 0, .int 0, .ref q1, .ref q2, .ref q3, .ref q4, .int 0, .ref q5, .int 0, .int 0, .int 0, .int 0, .long 0, .int (-1), .int 0, .int 0, .ref q6, .int 0, .ref q7, .ref q8, .int 0, .ref q9, .ref q10, .int 0, .int 0, .ref q11, .ref q12, .int 0, .ref q13, .ref q14, .int 0, .long 0, .long 0, .int 0, .int 0, .int 0, .int 0, .int 0, .null, .int 0, .int 0, .null, .int 0, .null, .null, .null, .int 0, .null, .null, .long 0, .null, .int 0])), (q1, (arI G 7 (fun _ => 0))), (q2, (arI G 5740 (fun _ => 0))), (q3, (arI G 11480 (fun _ => 0))), (q4, (arZ G 2 (fun _ => 0))), (q5, (arI G 400 (fun _ => 0))), (q6, (arI G 96 (fun _ => 0))), (q7, (arI G 400 (fun _ => 0))), (q8, (arI G 400 (fun _ => 0))), (q9, (arI G 400 (fun _ => 0))), (q10, (arI G 400 (fun _ => 0))), (q11, (arJ G 8 (vp_updL (vp_updL (vp_updL (vp_updL (vp_updL (vp_updL (vp_updL (vp_updL (fun _ => 0) 0 7734899) 1 24) 2 25) 3 278194) 4 23609) 5 81049) 6 20583955) 7 86285588))), (q12, (arJ G 4 (vp_updL (vp_updL (vp_updL (vp_updL (fun _ => 0) 0 394885) 1 153204) 2 117118547) 3 3544114))), (q13, (arJ G 13 (fun _ => 0))), (q14, (arJ G 400 (fun _ => 0)))] hP hD ?_
  clear hP hD
  intro hP hD
  refine W.eq (g2 := F0 m 201 ls []) rfl ?_
  refine lv_aload_n hx hb dX12_init_201 rfl (lv_at hl 0 rfl) ?_
  refine lv_sipush (v := 200) hx hb dX12_init_202 (by decide +kernel) ?_
  refine va_newa (D := G.1) (atype := .int) (ty := .int) hx hb (hts _ acl_I) rfl hK hP hD hS hA (n := 200) (N' := 200) (a0 := (200, .inl (fun _ => 0))) (fun _ => rfl) (by decide +kernel) (by decide +kernel) (by decide +kernel) (Nat.le_of_ble_eq_true rfl) (Nat.le_of_ble_eq_true rfl) dX12_init_205 (fun q15 cA H hKn hP hD hS => ?_)
  obtain rfl : cA = G.2 0 := g5_cI hKn
  refine g5_rs [(a0, .inr (12, [.int 0, .int 0, .ref q1, .ref q2, .ref q3, .ref q4, .int 0, .ref q5, .int 0, .int 0, .int 0, .int 0, .long 0, .int (-1), .int 0, .int 0, .ref q6, .int 0, .ref q7, .ref q8, .int 0, .ref q9, .ref q10, .int 0, .int 0, .ref q11, .ref q12, .int 0, .ref q13, .ref q14, .int 0, .long 0, .long 0, .int 0, .int 0, .int 0, .int 0, .int 0, .null, .int 0, .int 0, .null, .int 0, .null, .null, .null, .int 0, .null, .null, .long 0, .null, .int 0])), (q1, (arI G 7 (fun _ => 0))), (q2, (arI G 5740 (fun _ => 0))), (q3, (arI G 11480 (fun _ => 0))), (q4, (arZ G 2 (fun _ => 0))), (q5, (arI G 400 (fun _ => 0))), (q6, (arI G 96 (fun _ => 0))), (q7, (arI G 400 (fun _ => 0))), (q8, (arI G 400 (fun _ => 0))), (q9, (arI G 400 (fun _ => 0))), (q10, (arI G 400 (fun _ => 0))), (q11, (arJ G 8 (vp_updL (vp_updL (vp_updL (vp_updL (vp_updL (vp_updL (vp_updL (vp_updL (fun _ => 0) 0 7734899) 1 24) 2 25) 3 278194) 4 23609) 5 81049) 6 20583955) 7 86285588))), (q12, (arJ G 4 (vp_updL (vp_updL (vp_updL (vp_updL (fun _ => 0) 0 394885) 1 153204) 2 117118547) 3 3544114))), (q13, (arJ G 13 (fun _ => 0))), (q14, (arJ G 400 (fun _ => 0))), (q15, (arI G 200 (fun _ => 0)))] hP hD ?_
  clear hP hD
  intro hP hD
  refine W.widen (k := 15) (n := 19950) (Nat.le_of_ble_eq_true rfl) (Nat.le_of_ble_eq_true rfl) ?_
  refine va_putF (D := G.1) (ci := 12) (v := .ref q15) (ty := .array .int) (C := RX12) (T := TX12) (N := 52) hx hb hts inG_X12 tyX12 tyX12_ok nmX12 hown hK hP hD hS 0 rfl rfl 38 (by decide +kernel) (hts _ fl_X12_82) (fun _ h9 => h9) rfl hin rfl (by decide +kernel) rfl rfl (Nat.le_of_ble_eq_true rfl) dX12_init_207 ?_
  clear hP hD hS
  intro H locs hP hD hS
  refine g5_rs [(a0, .inr (12, [.int 0, .int 0, .ref q1, .ref q2, .ref q3, .ref q4, .int 0, .ref q5, .int 0, .int 0, .int 0, .int 0, .long 0, .int (-1), .int 0, .int 0, .ref q6, .int 0, .ref q7, .ref q8, .int 0, .ref q9, .ref q10, .int 0, .int 0, .ref q11, .ref q12, .int 0, .ref q13, .ref q14, .int 0, .long 0, .long 0, .int 0, .int 0, .int 0, .int 0, .int 0, .ref q15, .int 0, .int 0, .null, .int 0, .null, .null, .null, .int 0, .null, .null, .long 0, .null, .int 0])), (q1, (arI G 7 (fun _ => 0))), (q2, (arI G 5740 (fun _ => 0))), (q3, (arI G 11480 (fun _ => 0))), (q4, (arZ G 2 (fun _ => 0))), (q5, (arI G 400 (fun _ => 0))), (q6, (arI G 96 (fun _ => 0))), (q7, (arI G 400 (fun _ => 0))), (q8, (arI G 400 (fun _ => 0))), (q9, (arI G 400 (fun _ => 0))), (q10, (arI G 400 (fun _ => 0))), (q11, (arJ G 8 (vp_updL (vp_updL (vp_updL (vp_updL (vp_updL (vp_updL (vp_updL (vp_updL (fun _ => 0) 0 7734899) 1 24) 2 25) 3 278194) 4 23609) 5 81049) 6 20583955) 7 86285588))), (q12, (arJ G 4 (vp_updL (vp_updL (vp_updL (vp_updL (fun _ => 0) 0 394885) 1 153204) 2 117118547) 3 3544114))), (q13, (arJ G 13 (fun _ => 0))), (q14, (arJ G 400 (fun _ => 0))), (q15, (arI G 200 (fun _ => 0)))] hP hD ?_
  clear hP hD
  intro hP hD
  refine lv_aload_n hx hb dX12_init_210 rfl (lv_at hl 0 rfl) ?_
  refine W.eq (g2 := F0 m 211 ls [.ref a0]) rfl ?_
  refine lv_sipush (v := 1536) hx hb dX12_init_211 (by decide +kernel) ?_
  refine va_newa (D := G.1) (atype := .boolean) (ty := .boolean) hx hb (hts _ acl_Z) rfl hK hP hD hS hA (n := 1536) (N' := 1536) (a0 := (1536, .inl (fun _ => 0))) (fun _ => rfl) (by decide +kernel) (by decide +kernel) (by decide +kernel) (Nat.le_of_ble_eq_true rfl) (Nat.le_of_ble_eq_true rfl) dX12_init_214 (fun q16 cA H hKn hP hD hS => ?_)
  obtain rfl : cA = G.2 2 := g5_cZ hKn
  refine g5_rs [(a0, .inr (12, [.int 0, .int 0, .ref q1, .ref q2, .ref q3, .ref q4, .int 0, .ref q5, .int 0, .int 0, .int 0, .int 0, .long 0, .int (-1), .int 0, .int 0, .ref q6, .int 0, .ref q7, .ref q8, .int 0, .ref q9, .ref q10, .int 0, .int 0, .ref q11, .ref q12, .int 0, .ref q13, .ref q14, .int 0, .long 0, .long 0, .int 0, .int 0, .int 0, .int 0, .int 0, .ref q15, .int 0, .int 0, .null, .int 0, .null, .null, .null, .int 0, .null, .null, .long 0, .null, .int 0])), (q1, (arI G 7 (fun _ => 0))), (q2, (arI G 5740 (fun _ => 0))), (q3, (arI G 11480 (fun _ => 0))), (q4, (arZ G 2 (fun _ => 0))), (q5, (arI G 400 (fun _ => 0))), (q6, (arI G 96 (fun _ => 0))), (q7, (arI G 400 (fun _ => 0))), (q8, (arI G 400 (fun _ => 0))), (q9, (arI G 400 (fun _ => 0))), (q10, (arI G 400 (fun _ => 0))), (q11, (arJ G 8 (vp_updL (vp_updL (vp_updL (vp_updL (vp_updL (vp_updL (vp_updL (vp_updL (fun _ => 0) 0 7734899) 1 24) 2 25) 3 278194) 4 23609) 5 81049) 6 20583955) 7 86285588))), (q12, (arJ G 4 (vp_updL (vp_updL (vp_updL (vp_updL (fun _ => 0) 0 394885) 1 153204) 2 117118547) 3 3544114))), (q13, (arJ G 13 (fun _ => 0))), (q14, (arJ G 400 (fun _ => 0))), (q15, (arI G 200 (fun _ => 0))), (q16, (arZ G 1536 (fun _ => 0)))] hP hD ?_
  clear hP hD
  intro hP hD
  refine W.widen (k := 16) (n := 21486) (Nat.le_of_ble_eq_true rfl) (Nat.le_of_ble_eq_true rfl) ?_
  refine va_putF (D := G.1) (ci := 12) (v := .ref q16) (ty := .array .boolean) (C := RX12) (T := TX12) (N := 52) hx hb hts inG_X12 tyX12 tyX12_ok nmX12 hown hK hP hD hS 0 rfl rfl 41 (by decide +kernel) (hts _ fl_X12_85) (fun _ h9 => h9) rfl hin rfl (by decide +kernel) rfl rfl (Nat.le_of_ble_eq_true rfl) dX12_init_216 ?_
  clear hP hD hS
  intro H locs hP hD hS
  refine g5_rs [(a0, .inr (12, [.int 0, .int 0, .ref q1, .ref q2, .ref q3, .ref q4, .int 0, .ref q5, .int 0, .int 0, .int 0, .int 0, .long 0, .int (-1), .int 0, .int 0, .ref q6, .int 0, .ref q7, .ref q8, .int 0, .ref q9, .ref q10, .int 0, .int 0, .ref q11, .ref q12, .int 0, .ref q13, .ref q14, .int 0, .long 0, .long 0, .int 0, .int 0, .int 0, .int 0, .int 0, .ref q15, .int 0, .int 0, .ref q16, .int 0, .null, .null, .null, .int 0, .null, .null, .long 0, .null, .int 0])), (q1, (arI G 7 (fun _ => 0))), (q2, (arI G 5740 (fun _ => 0))), (q3, (arI G 11480 (fun _ => 0))), (q4, (arZ G 2 (fun _ => 0))), (q5, (arI G 400 (fun _ => 0))), (q6, (arI G 96 (fun _ => 0))), (q7, (arI G 400 (fun _ => 0))), (q8, (arI G 400 (fun _ => 0))), (q9, (arI G 400 (fun _ => 0))), (q10, (arI G 400 (fun _ => 0))), (q11, (arJ G 8 (vp_updL (vp_updL (vp_updL (vp_updL (vp_updL (vp_updL (vp_updL (vp_updL (fun _ => 0) 0 7734899) 1 24) 2 25) 3 278194) 4 23609) 5 81049) 6 20583955) 7 86285588))), (q12, (arJ G 4 (vp_updL (vp_updL (vp_updL (vp_updL (fun _ => 0) 0 394885) 1 153204) 2 117118547) 3 3544114))), (q13, (arJ G 13 (fun _ => 0))), (q14, (arJ G 400 (fun _ => 0))), (q15, (arI G 200 (fun _ => 0))), (q16, (arZ G 1536 (fun _ => 0)))] hP hD ?_
  clear hP hD
  intro hP hD
  refine lv_aload_n hx hb dX12_init_219 rfl (lv_at hl 0 rfl) ?_
  refine lv_ldc (v := 49152) hx hb hown (hts _ ki_X12_88) dX12_init_220 ?_
  refine W.eq (g2 := F0 m 222 ls [.int 49152, .ref a0]) rfl ?_
  refine va_newa (D := G.1) (atype := .long) (ty := .long) hx hb (hts _ acl_J) rfl hK hP hD hS hA (n := 49152) (N' := 49152) (a0 := (49152, .inr (.inl (fun _ => 0)))) (fun _ => rfl) (by decide +kernel) (by decide +kernel) (by decide +kernel) (Nat.le_of_ble_eq_true rfl) (Nat.le_of_ble_eq_true rfl) dX12_init_222 (fun q17 cA H hKn hP hD hS => ?_)
  obtain rfl : cA = G.2 1 := g5_cJ hKn
  refine g5_rs [(a0, .inr (12, [.int 0, .int 0, .ref q1, .ref q2, .ref q3, .ref q4, .int 0, .ref q5, .int 0, .int 0, .int 0, .int 0, .long 0, .int (-1), .int 0, .int 0, .ref q6, .int 0, .ref q7, .ref q8, .int 0, .ref q9, .ref q10, .int 0, .int 0, .ref q11, .ref q12, .int 0, .ref q13, .ref q14, .int 0, .long 0, .long 0, .int 0, .int 0, .int 0, .int 0, .int 0, .ref q15, .int 0, .int 0, .ref q16, .int 0, .null, .null, .null, .int 0, .null, .null, .long 0, .null, .int 0])), (q1, (arI G 7 (fun _ => 0))), (q2, (arI G 5740 (fun _ => 0))), (q3, (arI G 11480 (fun _ => 0))), (q4, (arZ G 2 (fun _ => 0))), (q5, (arI G 400 (fun _ => 0))), (q6, (arI G 96 (fun _ => 0))), (q7, (arI G 400 (fun _ => 0))), (q8, (arI G 400 (fun _ => 0))), (q9, (arI G 400 (fun _ => 0))), (q10, (arI G 400 (fun _ => 0))), (q11, (arJ G 8 (vp_updL (vp_updL (vp_updL (vp_updL (vp_updL (vp_updL (vp_updL (vp_updL (fun _ => 0) 0 7734899) 1 24) 2 25) 3 278194) 4 23609) 5 81049) 6 20583955) 7 86285588))), (q12, (arJ G 4 (vp_updL (vp_updL (vp_updL (vp_updL (fun _ => 0) 0 394885) 1 153204) 2 117118547) 3 3544114))), (q13, (arJ G 13 (fun _ => 0))), (q14, (arJ G 400 (fun _ => 0))), (q15, (arI G 200 (fun _ => 0))), (q16, (arZ G 1536 (fun _ => 0))), (q17, (arJ G 49152 (fun _ => 0)))] hP hD ?_
  clear hP hD
  intro hP hD
  refine W.widen (k := 17) (n := 70638) (Nat.le_of_ble_eq_true rfl) (Nat.le_of_ble_eq_true rfl) ?_
  refine va_putF (D := G.1) (ci := 12) (v := .ref q17) (ty := .array .long) (C := RX12) (T := TX12) (N := 52) hx hb hts inG_X12 tyX12 tyX12_ok nmX12 hown hK hP hD hS 0 rfl rfl 43 (by decide +kernel) (hts _ fl_X12_89) (fun _ h9 => h9) rfl hin rfl (by decide +kernel) rfl rfl (Nat.le_of_ble_eq_true rfl) dX12_init_224 ?_
  clear hP hD hS
  intro H locs hP hD hS
  refine g5_rs [(a0, .inr (12, [.int 0, .int 0, .ref q1, .ref q2, .ref q3, .ref q4, .int 0, .ref q5, .int 0, .int 0, .int 0, .int 0, .long 0, .int (-1), .int 0, .int 0, .ref q6, .int 0, .ref q7, .ref q8, .int 0, .ref q9, .ref q10, .int 0, .int 0, .ref q11, .ref q12, .int 0, .ref q13, .ref q14, .int 0, .long 0, .long 0, .int 0, .int 0, .int 0, .int 0, .int 0, .ref q15, .int 0, .int 0, .ref q16, .int 0, .ref q17, .null, .null, .int 0, .null, .null, .long 0, .null, .int 0])), (q1, (arI G 7 (fun _ => 0))), (q2, (arI G 5740 (fun _ => 0))), (q3, (arI G 11480 (fun _ => 0))), (q4, (arZ G 2 (fun _ => 0))), (q5, (arI G 400 (fun _ => 0))), (q6, (arI G 96 (fun _ => 0))), (q7, (arI G 400 (fun _ => 0))), (q8, (arI G 400 (fun _ => 0))), (q9, (arI G 400 (fun _ => 0))), (q10, (arI G 400 (fun _ => 0))), (q11, (arJ G 8 (vp_updL (vp_updL (vp_updL (vp_updL (vp_updL (vp_updL (vp_updL (vp_updL (fun _ => 0) 0 7734899) 1 24) 2 25) 3 278194) 4 23609) 5 81049) 6 20583955) 7 86285588))), (q12, (arJ G 4 (vp_updL (vp_updL (vp_updL (vp_updL (fun _ => 0) 0 394885) 1 153204) 2 117118547) 3 3544114))), (q13, (arJ G 13 (fun _ => 0))), (q14, (arJ G 400 (fun _ => 0))), (q15, (arI G 200 (fun _ => 0))), (q16, (arZ G 1536 (fun _ => 0))), (q17, (arJ G 49152 (fun _ => 0)))] hP hD ?_
  clear hP hD
  intro hP hD
  refine lv_aload_n hx hb dX12_init_227 rfl (lv_at hl 0 rfl) ?_
  refine lv_ldc (v := 49152) hx hb hown (hts _ ki_X12_88) dX12_init_228 ?_
  refine va_newa (D := G.1) (atype := .long) (ty := .long) hx hb (hts _ acl_J) rfl hK hP hD hS hA (n := 49152) (N' := 49152) (a0 := (49152, .inr (.inl (fun _ => 0)))) (fun _ => rfl) (by decide +kernel) (by decide +kernel) (by decide +kernel) (Nat.le_of_ble_eq_true rfl) (Nat.le_of_ble_eq_true rfl) dX12_init_230 (fun q18 cA H hKn hP hD hS => ?_)
  obtain rfl : cA = G.2 1 := g5_cJ hKn
  refine g5_rs [(a0, .inr (12, [.int 0, .int 0, .ref q1, .ref q2, .ref q3, .ref q4, .int 0, .ref q5, .int 0, .int 0, .int 0, .int 0, .long 0, .int (-1), .int 0, .int 0, .ref q6, .int 0, .ref q7, .ref q8, .int 0, .ref q9, .ref q10, .int 0, .int 0, .ref q11, .ref q12, .int 0, .ref q13, .ref q14, .int 0, .long 0, .long 0, .int 0, .int 0, .int 0, .int 0, .int 0, .ref q15, .int 0, .int 0, .ref q16, .int 0, .ref q17, .null, .null, .int 0, .null, .null, .long 0, .null, .int 0])), (q1, (arI G 7 (fun _ => 0))), (q2, (arI G 5740 (fun _ => 0))), (q3, (arI G 11480 (fun _ => 0))), (q4, (arZ G 2 (fun _ => 0))), (q5, (arI G 400 (fun _ => 0))), (q6, (arI G 96 (fun _ => 0))), (q7, (arI G 400 (fun _ => 0))), (q8, (arI G 400 (fun _ => 0))), (q9, (arI G 400 (fun _ => 0))), (q10, (arI G 400 (fun _ => 0))), (q11, (arJ G 8 (vp_updL (vp_updL (vp_updL (vp_updL (vp_updL (vp_updL (vp_updL (vp_updL (fun _ => 0) 0 7734899) 1 24) 2 25) 3 278194) 4 23609) 5 81049) 6 20583955) 7 86285588))), (q12, (arJ G 4 (vp_updL (vp_updL (vp_updL (vp_updL (fun _ => 0) 0 394885) 1 153204) 2 117118547) 3 3544114))), (q13, (arJ G 13 (fun _ => 0))), (q14, (arJ G 400 (fun _ => 0))), (q15, (arI G 200 (fun _ => 0))), (q16, (arZ G 1536 (fun _ => 0))), (q17, (arJ G 49152 (fun _ => 0))), (q18, (arJ G 49152 (fun _ => 0)))] hP hD ?_
  clear hP hD
  intro hP hD
  refine W.widen (k := 18) (n := 119790) (Nat.le_of_ble_eq_true rfl) (Nat.le_of_ble_eq_true rfl) ?_
  refine W.eq (g2 := F0 m 232 ls [.ref q18, .ref a0]) rfl ?_
  refine va_putF (D := G.1) (ci := 12) (v := .ref q18) (ty := .array .long) (C := RX12) (T := TX12) (N := 52) hx hb hts inG_X12 tyX12 tyX12_ok nmX12 hown hK hP hD hS 0 rfl rfl 44 (by decide +kernel) (hts _ fl_X12_92) (fun _ h9 => h9) rfl hin rfl (by decide +kernel) rfl rfl (Nat.le_of_ble_eq_true rfl) dX12_init_232 ?_
  clear hP hD hS
  intro H locs hP hD hS
  refine g5_rs [(a0, .inr (12, [.int 0, .int 0, .ref q1, .ref q2, .ref q3, .ref q4, .int 0, .ref q5, .int 0, .int 0, .int 0, .int 0, .long 0, .int (-1), .int 0, .int 0, .ref q6, .int 0, .ref q7, .ref q8, .int 0, .ref q9, .ref q10, .int 0, .int 0, .ref q11, .ref q12, .int 0, .ref q13, .ref q14, .int 0, .long 0, .long 0, .int 0, .int 0, .int 0, .int 0, .int 0, .ref q15, .int 0, .int 0, .ref q16, .int 0, .ref q17, .ref q18, .null, .int 0, .null, .null, .long 0, .null, .int 0])), (q1, (arI G 7 (fun _ => 0))), (q2, (arI G 5740 (fun _ => 0))), (q3, (arI G 11480 (fun _ => 0))), (q4, (arZ G 2 (fun _ => 0))), (q5, (arI G 400 (fun _ => 0))), (q6, (arI G 96 (fun _ => 0))), (q7, (arI G 400 (fun _ => 0))), (q8, (arI G 400 (fun _ => 0))), (q9, (arI G 400 (fun _ => 0))), (q10, (arI G 400 (fun _ => 0))), (q11, (arJ G 8 (vp_updL (vp_updL (vp_updL (vp_updL (vp_updL (vp_updL (vp_updL (vp_updL (fun _ => 0) 0 7734899) 1 24) 2 25) 3 278194) 4 23609) 5 81049) 6 20583955) 7 86285588))), (q12, (arJ G 4 (vp_updL (vp_updL (vp_updL (vp_updL (fun _ => 0) 0 394885) 1 153204) 2 117118547) 3 3544114))), (q13, (arJ G 13 (fun _ => 0))), (q14, (arJ G 400 (fun _ => 0))), (q15, (arI G 200 (fun _ => 0))), (q16, (arZ G 1536 (fun _ => 0))), (q17, (arJ G 49152 (fun _ => 0))), (q18, (arJ G 49152 (fun _ => 0)))] hP hD ?_
  clear hP hD
  intro hP hD
  refine lv_aload_n hx hb dX12_init_235 rfl (lv_at hl 0 rfl) ?_
  refine lv_sipush (v := 1536) hx hb dX12_init_236 (by decide +kernel) ?_
  refine va_newa (D := G.1) (atype := .int) (ty := .int) hx hb (hts _ acl_I) rfl hK hP hD hS hA (n := 1536) (N' := 1536) (a0 := (1536, .inl (fun _ => 0))) (fun _ => rfl) (by decide +kernel) (by decide +kernel) (by decide +kernel) (Nat.le_of_ble_eq_true rfl) (Nat.le_of_ble_eq_true rfl) dX12_init_239 (fun q19 cA H hKn hP hD hS => ?_)
  obtain rfl : cA = G.2 0 := g5_cI hKn
  refine g5_rs [(a0, .inr (12, [.int 0, .int 0, .ref q1, .ref q2, .ref q3, .ref q4, .int 0, .ref q5, .int 0, .int 0, .int 0, .int 0, .long 0, .int (-1), .int 0, .int 0, .ref q6, .int 0, .ref q7, .ref q8, .int 0, .ref q9, .ref q10, .int 0, .int 0, .ref q11, .ref q12, .int 0, .ref q13, .ref q14, .int 0, .long 0, .long 0, .int 0, .int 0, .int 0, .int 0, .int 0, .ref q15, .int 0, .int 0, .ref q16, .int 0, .ref q17, .ref q18, .null, .int 0, .null, .null, .long 0, .null, .int 0])), (q1, (arI G 7 (fun _ => 0))), (q2, (arI G 5740 (fun _ => 0))), (q3, (arI G 11480 (fun _ => 0))), (q4, (arZ G 2 (fun _ => 0))), (q5, (arI G 400 (fun _ => 0))), (q6, (arI G 96 (fun _ => 0))), (q7, (arI G 400 (fun _ => 0))), (q8, (arI G 400 (fun _ => 0))), (q9, (arI G 400 (fun _ => 0))), (q10, (arI G 400 (fun _ => 0))), (q11, (arJ G 8 (vp_updL (vp_updL (vp_updL (vp_updL (vp_updL (vp_updL (vp_updL (vp_updL (fun _ => 0) 0 7734899) 1 24) 2 25) 3 278194) 4 23609) 5 81049) 6 20583955) 7 86285588))), (q12, (arJ G 4 (vp_updL (vp_updL (vp_updL (vp_updL (fun _ => 0) 0 394885) 1 153204) 2 117118547) 3 3544114))), (q13, (arJ G 13 (fun _ => 0))), (q14, (arJ G 400 (fun _ => 0))), (q15, (arI G 200 (fun _ => 0))), (q16, (arZ G 1536 (fun _ => 0))), (q17, (arJ G 49152 (fun _ => 0))), (q18, (arJ G 49152 (fun _ => 0))), (q19, (arI G 1536 (fun _ => 0)))] hP hD ?_
  clear hP hD
  intro hP hD
  refine W.widen (k := 19) (n := 121326) (Nat.le_of_ble_eq_true rfl) (Nat.le_of_ble_eq_true rfl) ?_
  refine va_putF (D := G.1) (ci := 12) (v := .ref q19) (ty := .array .int) (C := RX12) (T := TX12) (N := 52) hx hb hts inG_X12 tyX12 tyX12_ok nmX12 hown hK hP hD hS 0 rfl rfl 45 (by decide +kernel) (hts _ fl_X12_95) (fun _ h9 => h9) rfl hin rfl (by decide +kernel) rfl rfl (Nat.le_of_ble_eq_true rfl) dX12_init_241 ?_
  clear hP hD hS
  intro H locs hP hD hS
  refine g5_rs [(a0, .inr (12, [.int 0, .int 0, .ref q1, .ref q2, .ref q3, .ref q4, .int 0, .ref q5, .int 0, .int 0, .int 0, .int 0, .long 0, .int (-1), .int 0, .int 0, .ref q6, .int 0, .ref q7, .ref q8, .int 0, .ref q9, .ref q10, .int 0, .int 0, .ref q11, .ref q12, .int 0, .ref q13, .ref q14, .int 0, .long 0, .long 0, .int 0, .int 0, .int 0, .int 0, .int 0, .ref q15, .int 0, .int 0, .ref q16, .int 0, .ref q17, .ref q18, .ref q19, .int 0, .null, .null, .long 0, .null, .int 0])), (q1, (arI G 7 (fun _ => 0))), (q2, (arI G 5740 (fun _ => 0))), (q3, (arI G 11480 (fun _ => 0))), (q4, (arZ G 2 (fun _ => 0))), (q5, (arI G 400 (fun _ => 0))), (q6, (arI G 96 (fun _ => 0))), (q7, (arI G 400 (fun _ => 0))), (q8, (arI G 400 (fun _ => 0))), (q9, (arI G 400 (fun _ => 0))), (q10, (arI G 400 (fun _ => 0))), (q11, (arJ G 8 (vp_updL (vp_updL (vp_updL (vp_updL (vp_updL (vp_updL (vp_updL (vp_updL (fun _ => 0) 0 7734899) 1 24) 2 25) 3 278194) 4 23609) 5 81049) 6 20583955) 7 86285588))), (q12, (arJ G 4 (vp_updL (vp_updL (vp_updL (vp_updL (fun _ => 0) 0 394885) 1 153204) 2 117118547) 3 3544114))), (q13, (arJ G 13 (fun _ => 0))), (q14, (arJ G 400 (fun _ => 0))), (q15, (arI G 200 (fun _ => 0))), (q16, (arZ G 1536 (fun _ => 0))), (q17, (arJ G 49152 (fun _ => 0))), (q18, (arJ G 49152 (fun _ => 0))), (q19, (arI G 1536 (fun _ => 0)))] hP hD ?_
  clear hP hD
  intro hP hD
  refine W.eq (g2 := F0 m 244 ls []) rfl ?_
  refine lv_aload_n hx hb dX12_init_244 rfl (lv_at hl 0 rfl) ?_
  refine lv_sipush (v := 1536) hx hb dX12_init_245 (by decide +kernel) ?_
  refine va_newa (D := G.1) (atype := .boolean) (ty := .boolean) hx hb (hts _ acl_Z) rfl hK hP hD hS hA (n := 1536) (N' := 1536) (a0 := (1536, .inl (fun _ => 0))) (fun _ => rfl) (by decide +kernel) (by decide +kernel) (by decide +kernel) (Nat.le_of_ble_eq_true rfl) (Nat.le_of_ble_eq_true rfl) dX12_init_248 (fun q20 cA H hKn hP hD hS => ?_)
  obtain rfl : cA = G.2 2 := g5_cZ hKn
  refine g5_rs [(a0, .inr (12, [.int 0, .int 0, .ref q1, .ref q2, .ref q3, .ref q4, .int 0, .ref q5, .int 0, .int 0, .int 0, .int 0, .long 0, .int (-1), .int 0, .int 0, .ref q6, .int 0, .ref q7, .ref q8, .int 0, .ref q9, .ref q10, .int 0, .int 0, .ref q11, .ref q12, .int 0, .ref q13, .ref q14, .int 0, .long 0, .long 0, .int 0, .int 0, .int 0, .int 0, .int 0, .ref q15, .int 0, .int 0, .ref q16, .int 0, .ref q17, .ref q18, .ref q19, .int 0, .null, .null, .long 0, .null, .int 0])), (q1, (arI G 7 (fun _ => 0))), (q2, (arI G 5740 (fun _ => 0))), (q3, (arI G 11480 (fun _ => 0))), (q4, (arZ G 2 (fun _ => 0))), (q5, (arI G 400 (fun _ => 0))), (q6, (arI G 96 (fun _ => 0))), (q7, (arI G 400 (fun _ => 0))), (q8, (arI G 400 (fun _ => 0))), (q9, (arI G 400 (fun _ => 0))), (q10, (arI G 400 (fun _ => 0))), (q11, (arJ G 8 (vp_updL (vp_updL (vp_updL (vp_updL (vp_updL (vp_updL (vp_updL (vp_updL (fun _ => 0) 0 7734899) 1 24) 2 25) 3 278194) 4 23609) 5 81049) 6 20583955) 7 86285588))), (q12, (arJ G 4 (vp_updL (vp_updL (vp_updL (vp_updL (fun _ => 0) 0 394885) 1 153204) 2 117118547) 3 3544114))), (q13, (arJ G 13 (fun _ => 0))), (q14, (arJ G 400 (fun _ => 0))), (q15, (arI G 200 (fun _ => 0))), (q16, (arZ G 1536 (fun _ => 0))), (q17, (arJ G 49152 (fun _ => 0))), (q18, (arJ G 49152 (fun _ => 0))), (q19, (arI G 1536 (fun _ => 0))), (q20, (arZ G 1536 (fun _ => 0)))] hP hD ?_
  clear hP hD
  intro hP hD
  refine W.widen (k := 20) (n := 122862) (Nat.le_of_ble_eq_true rfl) (Nat.le_of_ble_eq_true rfl) ?_
  refine va_putF (D := G.1) (ci := 12) (v := .ref q20) (ty := .array .boolean) (C := RX12) (T := TX12) (N := 52) hx hb hts inG_X12 tyX12 tyX12_ok nmX12 hown hK hP hD hS 0 rfl rfl 47 (by decide +kernel) (hts _ fl_X12_98) (fun _ h9 => h9) rfl hin rfl (by decide +kernel) rfl rfl (Nat.le_of_ble_eq_true rfl) dX12_init_250 ?_
  clear hP hD hS
  intro H locs hP hD hS
  refine g5_rs [(a0, .inr (12, [.int 0, .int 0, .ref q1, .ref q2, .ref q3, .ref q4, .int 0, .ref q5, .int 0, .int 0, .int 0, .int 0, .long 0, .int (-1), .int 0, .int 0, .ref q6, .int 0, .ref q7, .ref q8, .int 0, .ref q9, .ref q10, .int 0, .int 0, .ref q11, .ref q12, .int 0, .ref q13, .ref q14, .int 0, .long 0, .long 0, .int 0, .int 0, .int 0, .int 0, .int 0, .ref q15, .int 0, .int 0, .ref q16, .int 0, .ref q17, .ref q18, .ref q19, .int 0, .ref q20, .null, .long 0, .null, .int 0])), (q1, (arI G 7 (fun _ => 0))), (q2, (arI G 5740 (fun _ => 0))), (q3, (arI G 11480 (fun _ => 0))), (q4, (arZ G 2 (fun _ => 0))), (q5, (arI G 400 (fun _ => 0))), (q6, (arI G 96 (fun _ => 0))), (q7, (arI G 400 (fun _ => 0))), (q8, (arI G 400 (fun _ => 0))), (q9, (arI G 400 (fun _ => 0))), (q10, (arI G 400 (fun _ => 0))), (q11, (arJ G 8 (vp_updL (vp_updL (vp_updL (vp_updL (vp_updL (vp_updL (vp_updL (vp_updL (fun _ => 0) 0 7734899) 1 24) 2 25) 3 278194) 4 23609) 5 81049) 6 20583955) 7 86285588))), (q12, (arJ G 4 (vp_updL (vp_updL (vp_updL (vp_updL (fun _ => 0) 0 394885) 1 153204) 2 117118547) 3 3544114))), (q13, (arJ G 13 (fun _ => 0))), (q14, (arJ G 400 (fun _ => 0))), (q15, (arI G 200 (fun _ => 0))), (q16, (arZ G 1536 (fun _ => 0))), (q17, (arJ G 49152 (fun _ => 0))), (q18, (arJ G 49152 (fun _ => 0))), (q19, (arI G 1536 (fun _ => 0))), (q20, (arZ G 1536 (fun _ => 0)))] hP hD ?_
  clear hP hD
  intro hP hD
  refine lv_aload_n hx hb dX12_init_253 rfl (lv_at hl 0 rfl) ?_
  refine W.eq (g2 := F0 m 254 ls [.ref a0]) rfl ?_
  refine lv_sipush (v := 1536) hx hb dX12_init_254 (by decide +kernel) ?_
  refine va_newa (D := G.1) (atype := .boolean) (ty := .boolean) hx hb (hts _ acl_Z) rfl hK hP hD hS hA (n := 1536) (N' := 1536) (a0 := (1536, .inl (fun _ => 0))) (fun _ => rfl) (by decide +kernel) (by decide +kernel) (by decide +kernel) (Nat.le_of_ble_eq_true rfl) (Nat.le_of_ble_eq_true rfl) dX12_init_257 (fun q21 cA H hKn hP hD hS => ?_)
  obtain rfl : cA = G.2 2 := g5_cZ hKn
  refine g5_rs [(a0, .inr (12, [.int 0, .int 0, .ref q1, .ref q2, .ref q3, .ref q4, .int 0, .ref q5, .int 0, .int 0, .int 0, .int 0, .long 0, .int (-1), .int 0, .int 0, .ref q6, .int 0, .ref q7, .ref q8, .int 0, .ref q9, .ref q10, .int 0, .int 0, .ref q11, .ref q12, .int 0, .ref q13, .ref q14, .int 0, .long 0, .long 0, .int 0, .int 0, .int 0, .int 0, .int 0, .ref q15, .int 0, .int 0, .ref q16, .int 0, .ref q17, .ref q18, .ref q19, .int 0, .ref q20, .null, .long 0, .null, .int 0])), (q1, (arI G 7 (fun _ => 0))), (q2, (arI G 5740 (fun _ => 0))), (q3, (arI G 11480 (fun _ => 0))), (q4, (arZ G 2 (fun _ => 0))), (q5, (arI G 400 (fun _ => 0))), (q6, (arI G 96 (fun _ => 0))), (q7, (arI G 400 (fun _ => 0))), (q8, (arI G 400 (fun _ => 0))), (q9, (arI G 400 (fun _ => 0))), (q10, (arI G 400 (fun _ => 0))), (q11, (arJ G 8 (vp_updL (vp_updL (vp_updL (vp_updL (vp_updL (vp_updL (vp_updL (vp_updL (fun _ => 0) 0 7734899) 1 24) 2 25) 3 278194) 4 23609) 5 81049) 6 20583955) 7 86285588))), (q12, (arJ G 4 (vp_updL (vp_updL (vp_updL (vp_updL (fun _ => 0) 0 394885) 1 153204) 2 117118547) 3 3544114))), (q13, (arJ G 13 (fun _ => 0))), (q14, (arJ G 400 (fun _ => 0))), (q15, (arI G 200 (fun _ => 0))), (q16, (arZ G 1536 (fun _ => 0))), (q17, (arJ G 49152 (fun _ => 0))), (q18, (arJ G 49152 (fun _ => 0))), (q19, (arI G 1536 (fun _ => 0))), (q20, (arZ G 1536 (fun _ => 0))), (q21, (arZ G 1536 (fun _ => 0)))] hP hD ?_
  clear hP hD
  intro hP hD
  refine W.widen (k := 21) (n := 124398) (Nat.le_of_ble_eq_true rfl) (Nat.le_of_ble_eq_true rfl) ?_
  refine va_putF (D := G.1) (ci := 12) (v := .ref q21) (ty := .array .boolean) (C := RX12) (T := TX12) (N := 52) hx hb hts inG_X12 tyX12 tyX12_ok nmX12 hown hK hP hD hS 0 rfl rfl 48 (by decide +kernel) (hts _ fl_X12_101) (fun _ h9 => h9) rfl hin rfl (by decide +kernel) rfl rfl (Nat.le_of_ble_eq_true rfl) dX12_init_259 ?_
  clear hP hD hS
  intro H locs hP hD hS
  refine g5_rs [(a0, .inr (12, [.int 0, .int 0, .ref q1, .ref q2, .ref q3, .ref q4, .int 0, .ref q5, .int 0, .int 0, .int 0, .int 0, .long 0, .int (-1), .int 0, .int 0, .ref q6, .int 0, .ref q7, .ref q8, .int 0, .ref q9, .ref q10, .int 0, .int 0, .ref q11, .ref q12, .int 0, .ref q13, .ref q14, .int 0, .long 0, .long 0, .int 0, .int 0, .int 0, .int 0, .int 0, .ref q15, .int 0, .int 0, .ref q16, .int 0, .ref q17, .ref q18, .ref q19, .int 0, .ref q20, .ref q21, .long 0, .null, .int 0])), (q1, (arI G 7 (fun _ => 0))), (q2, (arI G 5740 (fun _ => 0))), (q3, (arI G 11480 (fun _ => 0))), (q4, (arZ G 2 (fun _ => 0))), (q5, (arI G 400 (fun _ => 0))), (q6, (arI G 96 (fun _ => 0))), (q7, (arI G 400 (fun _ => 0))), (q8, (arI G 400 (fun _ => 0))), (q9, (arI G 400 (fun _ => 0))), (q10, (arI G 400 (fun _ => 0))), (q11, (arJ G 8 (vp_updL (vp_updL (vp_updL (vp_updL (vp_updL (vp_updL (vp_updL (vp_updL (fun _ => 0) 0 7734899) 1 24) 2 25) 3 278194) 4 23609) 5 81049) 6 20583955) 7 86285588))), (q12, (arJ G 4 (vp_updL (vp_updL (vp_updL (vp_updL (fun _ => 0) 0 394885) 1 153204) 2 117118547) 3 3544114))), (q13, (arJ G 13 (fun _ => 0))), (q14, (arJ G 400 (fun _ => 0))), (q15, (arI G 200 (fun _ => 0))), (q16, (arZ G 1536 (fun _ => 0))), (q17, (arJ G 49152 (fun _ => 0))), (q18, (arJ G 49152 (fun _ => 0))), (q19, (arI G 1536 (fun _ => 0))), (q20, (arZ G 1536 (fun _ => 0))), (q21, (arZ G 1536 (fun _ => 0)))] hP hD ?_
  clear hP hD
  intro hP hD
  refine lv_aload_n hx hb dX12_init_262 rfl (lv_at hl 0 rfl) ?_
  refine lv_bipush (v := 24) hx hb dX12_init_263 (by decide +kernel) ?_
  refine W.eq (g2 := F0 m 265 ls [.int 24, .ref a0]) rfl ?_
  refine va_newa (D := G.1) (atype := .int) (ty := .int) hx hb (hts _ acl_I) rfl hK hP hD hS hA (n := 24) (N' := 24) (a0 := (24, .inl (fun _ => 0))) (fun _ => rfl) (by decide +kernel) (by decide +kernel) (by decide +kernel) (Nat.le_of_ble_eq_true rfl) (Nat.le_of_ble_eq_true rfl) dX12_init_265 (fun q22 cA H hKn hP hD hS => ?_)
  obtain rfl : cA = G.2 0 := g5_cI hKn
  refine g5_rs [(a0, .inr (12, [.int 0, .int 0, .ref q1, .ref q2, .ref q3, .ref q4, .int 0, .ref q5, .int 0, .int 0, .int 0, .int 0, .long 0, .int (-1), .int 0, .int 0, .ref q6, .int 0, .ref q7, .ref q8, .int 0, .ref q9, .ref q10, .int 0, .int 0, .ref q11, .ref q12, .int 0, .ref q13, .ref q14, .int 0, .long 0, .long 0, .int 0, .int 0, .int 0, .int 0, .int 0, .ref q15, .int 0, .int 0, .ref q16, .int 0, .ref q17, .ref q18, .ref q19, .int 0, .ref q20, .ref q21, .long 0, .null, .int 0])), (q1, (arI G 7 (fun _ => 0))), (q2, (arI G 5740 (fun _ => 0))), (q3, (arI G 11480 (fun _ => 0))), (q4, (arZ G 2 (fun _ => 0))), (q5, (arI G 400 (fun _ => 0))), (q6, (arI G 96 (fun _ => 0))), (q7, (arI G 400 (fun _ => 0))), (q8, (arI G 400 (fun _ => 0))), (q9, (arI G 400 (fun _ => 0))), (q10, (arI G 400 (fun _ => 0))), (q11, (arJ G 8 (vp_updL (vp_updL (vp_updL (vp_updL (vp_updL (vp_updL (vp_updL (vp_updL (fun _ => 0) 0 7734899) 1 24) 2 25) 3 278194) 4 23609) 5 81049) 6 20583955) 7 86285588))), (q12, (arJ G 4 (vp_updL (vp_updL (vp_updL (vp_updL (fun _ => 0) 0 394885) 1 153204) 2 117118547) 3 3544114))), (q13, (arJ G 13 (fun _ => 0))), (q14, (arJ G 400 (fun _ => 0))), (q15, (arI G 200 (fun _ => 0))), (q16, (arZ G 1536 (fun _ => 0))), (q17, (arJ G 49152 (fun _ => 0))), (q18, (arJ G 49152 (fun _ => 0))), (q19, (arI G 1536 (fun _ => 0))), (q20, (arZ G 1536 (fun _ => 0))), (q21, (arZ G 1536 (fun _ => 0))), (q22, (arI G 24 (fun _ => 0)))] hP hD ?_
  clear hP hD
  intro hP hD
  refine W.widen (k := 22) (n := 124422) (Nat.le_of_ble_eq_true rfl) (Nat.le_of_ble_eq_true rfl) ?_
  refine va_putF (D := G.1) (ci := 12) (v := .ref q22) (ty := .array .int) (C := RX12) (T := TX12) (N := 52) hx hb hts inG_X12 tyX12 tyX12_ok nmX12 hown hK hP hD hS 0 rfl rfl 50 (by decide +kernel) (hts _ fl_X12_104) (fun _ h9 => h9) rfl hin rfl (by decide +kernel) rfl rfl (Nat.le_of_ble_eq_true rfl) dX12_init_267 ?_
  clear hP hD hS
  intro H locs hP hD hS
  refine g5_rs [(a0, (oc12 0 0 q1 q2 q3 q4 0 q5 0 0 0 0 0 (-1) 0 0 q6 0 q7 q8 0 q9 q10 0 0 q11 q12 0 q13 q14 0 0 0 0 0 0 0 0 q15 0 0 q16 0 q17 q18 q19 0 q20 q21 0 q22 0)), (q1, (arI G 7 (fun _ => 0))), (q2, (arI G 5740 (fun _ => 0))), (q3, (arI G 11480 (fun _ => 0))), (q4, (arZ G 2 (fun _ => 0))), (q5, (arI G 400 (fun _ => 0))), (q6, (arI G 96 (fun _ => 0))), (q7, (arI G 400 (fun _ => 0))), (q8, (arI G 400 (fun _ => 0))), (q9, (arI G 400 (fun _ => 0))), (q10, (arI G 400 (fun _ => 0))), (q11, (arJ G 8 (vp_updL (vp_updL (vp_updL (vp_updL (vp_updL (vp_updL (vp_updL (vp_updL (fun _ => 0) 0 7734899) 1 24) 2 25) 3 278194) 4 23609) 5 81049) 6 20583955) 7 86285588))), (q12, (arJ G 4 (vp_updL (vp_updL (vp_updL (vp_updL (fun _ => 0) 0 394885) 1 153204) 2 117118547) 3 3544114))), (q13, (arJ G 13 (fun _ => 0))), (q14, (arJ G 400 (fun _ => 0))), (q15, (arI G 200 (fun _ => 0))), (q16, (arZ G 1536 (fun _ => 0))), (q17, (arJ G 49152 (fun _ => 0))), (q18, (arJ G 49152 (fun _ => 0))), (q19, (arI G 1536 (fun _ => 0))), (q20, (arZ G 1536 (fun _ => 0))), (q21, (arZ G 1536 (fun _ => 0))), (q22, (arI G 24 (fun _ => 0)))] hP hD ?_
  clear hP hD
  intro hP hD
  refine lv_aload_n hx hb dX12_init_270 rfl (lv_at hl 0 rfl) ?_
  refine va_get (D := G.1) (ci := 12) (v := .ref q2) (C := RX12) (T := TX12) (N := 52) hx hb hts inG_X12 hown hK hP 0 rfl rfl 3 (by decide +kernel) (hts _ fl_X12_13) (fun _ h9 => h9) rfl dX12_init_271 ?_
  refine lv_iconst (v := 3) hx hb dX12_init_274 (by decide +kernel) ?_
  refine W.eq (g2 := F0 m 275 ls [.int 3, .ref q2]) rfl ?_
  refine lv_iconst (v := (-1)) hx hb dX12_init_275 (by decide +kernel) ?_
  refine va_iast hx hb hK hP hD hS 2 0 rfl rfl (i := 3) (x := (-1)) (by unfold vp_in; decide) dX12_init_276 ?_
  clear hP hD hS
  intro H locs hP hD hS
  refine g5_rs [(a0, (oc12 0 0 q1 q2 q3 q4 0 q5 0 0 0 0 0 (-1) 0 0 q6 0 q7 q8 0 q9 q10 0 0 q11 q12 0 q13 q14 0 0 0 0 0 0 0 0 q15 0 0 q16 0 q17 q18 q19 0 q20 q21 0 q22 0)), (q1, (arI G 7 (fun _ => 0))), (q2, (arI G 5740 (upd (fun _ => 0) 3 (-1)))), (q3, (arI G 11480 (fun _ => 0))), (q4, (arZ G 2 (fun _ => 0))), (q5, (arI G 400 (fun _ => 0))), (q6, (arI G 96 (fun _ => 0))), (q7, (arI G 400 (fun _ => 0))), (q8, (arI G 400 (fun _ => 0))), (q9, (arI G 400 (fun _ => 0))), (q10, (arI G 400 (fun _ => 0))), (q11, (arJ G 8 (vp_updL (vp_updL (vp_updL (vp_updL (vp_updL (vp_updL (vp_updL (vp_updL (fun _ => 0) 0 7734899) 1 24) 2 25) 3 278194) 4 23609) 5 81049) 6 20583955) 7 86285588))), (q12, (arJ G 4 (vp_updL (vp_updL (vp_updL (vp_updL (fun _ => 0) 0 394885) 1 153204) 2 117118547) 3 3544114))), (q13, (arJ G 13 (fun _ => 0))), (q14, (arJ G 400 (fun _ => 0))), (q15, (arI G 200 (fun _ => 0))), (q16, (arZ G 1536 (fun _ => 0))), (q17, (arJ G 49152 (fun _ => 0))), (q18, (arJ G 49152 (fun _ => 0))), (q19, (arI G 1536 (fun _ => 0))), (q20, (arZ G 1536 (fun _ => 0))), (q21, (arZ G 1536 (fun _ => 0))), (q22, (arI G 24 (fun _ => 0)))] hP hD ?_
  clear hP hD
  intro hP hD
  refine lv_aload_n hx hb dX12_init_277 rfl (lv_at hl 0 rfl) ?_
  refine va_get (D := G.1) (ci := 12) (v := .ref q2) (C := RX12) (T := TX12) (N := 52) hx hb hts inG_X12 hown hK hP 0 rfl rfl 3 (by decide +kernel) (hts _ fl_X12_13) (fun _ h9 => h9) rfl dX12_init_278 ?_
  refine lv_iconst (v := 4) hx hb dX12_init_281 (by decide +kernel) ?_
  refine W.eq (g2 := F0 m 282 ls [.int 4, .ref q2]) rfl ?_
  refine lv_sipush (v := 1000) hx hb dX12_init_282 (by decide +kernel) ?_
  refine va_iast hx hb hK hP hD hS 2 0 rfl rfl (i := 4) (x := 1000) (by unfold vp_in; decide) dX12_init_285 ?_
  clear hP hD hS
  intro H locs hP hD hS
  refine g5_rs [(a0, (oc12 0 0 q1 q2 q3 q4 0 q5 0 0 0 0 0 (-1) 0 0 q6 0 q7 q8 0 q9 q10 0 0 q11 q12 0 q13 q14 0 0 0 0 0 0 0 0 q15 0 0 q16 0 q17 q18 q19 0 q20 q21 0 q22 0)), (q1, (arI G 7 (fun _ => 0))), (q2, (arI G 5740 (upd (upd (fun _ => 0) 3 (-1)) 4 1000))), (q3, (arI G 11480 (fun _ => 0))), (q4, (arZ G 2 (fun _ => 0))), (q5, (arI G 400 (fun _ => 0))), (q6, (arI G 96 (fun _ => 0))), (q7, (arI G 400 (fun _ => 0))), (q8, (arI G 400 (fun _ => 0))), (q9, (arI G 400 (fun _ => 0))), (q10, (arI G 400 (fun _ => 0))), (q11, (arJ G 8 (vp_updL (vp_updL (vp_updL (vp_updL (vp_updL (vp_updL (vp_updL (vp_updL (fun _ => 0) 0 7734899) 1 24) 2 25) 3 278194) 4 23609) 5 81049) 6 20583955) 7 86285588))), (q12, (arJ G 4 (vp_updL (vp_updL (vp_updL (vp_updL (fun _ => 0) 0 394885) 1 153204) 2 117118547) 3 3544114))), (q13, (arJ G 13 (fun _ => 0))), (q14, (arJ G 400 (fun _ => 0))), (q15, (arI G 200 (fun _ => 0))), (q16, (arZ G 1536 (fun _ => 0))), (q17, (arJ G 49152 (fun _ => 0))), (q18, (arJ G 49152 (fun _ => 0))), (q19, (arI G 1536 (fun _ => 0))), (q20, (arZ G 1536 (fun _ => 0))), (q21, (arZ G 1536 (fun _ => 0))), (q22, (arI G 24 (fun _ => 0)))] hP hD ?_
  clear hP hD
  intro hP hD
  refine lv_aload_n hx hb dX12_init_286 rfl (lv_at hl 0 rfl) ?_
  refine va_get (D := G.1) (ci := 12) (v := .ref q2) (C := RX12) (T := TX12) (N := 52) hx hb hts inG_X12 hown hK hP 0 rfl rfl 3 (by decide +kernel) (hts _ fl_X12_13) (fun _ h9 => h9) rfl dX12_init_287 ?_
  refine lv_bipush (v := 6) hx hb dX12_init_290 (by decide +kernel) ?_
  refine W.eq (g2 := F0 m 292 ls [.int 6, .ref q2]) rfl ?_
  refine lv_iconst (v := (-1)) hx hb dX12_init_292 (by decide +kernel) ?_
  refine va_iast hx hb hK hP hD hS 2 0 rfl rfl (i := 6) (x := (-1)) (by unfold vp_in; decide) dX12_init_293 ?_
  clear hP hD hS
  intro H locs hP hD hS
  refine g5_rs [(a0, (oc12 0 0 q1 q2 q3 q4 0 q5 0 0 0 0 0 (-1) 0 0 q6 0 q7 q8 0 q9 q10 0 0 q11 q12 0 q13 q14 0 0 0 0 0 0 0 0 q15 0 0 q16 0 q17 q18 q19 0 q20 q21 0 q22 0)), (q1, (arI G 7 (fun _ => 0))), (q2, (arI G 5740 (upd (upd (upd (fun _ => 0) 3 (-1)) 4 1000) 6 (-1)))), (q3, (arI G 11480 (fun _ => 0))), (q4, (arZ G 2 (fun _ => 0))), (q5, (arI G 400 (fun _ => 0))), (q6, (arI G 96 (fun _ => 0))), (q7, (arI G 400 (fun _ => 0))), (q8, (arI G 400 (fun _ => 0))), (q9, (arI G 400 (fun _ => 0))), (q10, (arI G 400 (fun _ => 0))), (q11, (arJ G 8 (vp_updL (vp_updL (vp_updL (vp_updL (vp_updL (vp_updL (vp_updL (vp_updL (fun _ => 0) 0 7734899) 1 24) 2 25) 3 278194) 4 23609) 5 81049) 6 20583955) 7 86285588))), (q12, (arJ G 4 (vp_updL (vp_updL (vp_updL (vp_updL (fun _ => 0) 0 394885) 1 153204) 2 117118547) 3 3544114))), (q13, (arJ G 13 (fun _ => 0))), (q14, (arJ G 400 (fun _ => 0))), (q15, (arI G 200 (fun _ => 0))), (q16, (arZ G 1536 (fun _ => 0))), (q17, (arJ G 49152 (fun _ => 0))), (q18, (arJ G 49152 (fun _ => 0))), (q19, (arI G 1536 (fun _ => 0))), (q20, (arZ G 1536 (fun _ => 0))), (q21, (arZ G 1536 (fun _ => 0))), (q22, (arI G 24 (fun _ => 0)))] hP hD ?_
  clear hP hD
  intro hP hD
  exact W.vret hx hb hr (fun t ht hW => ⟨⟨[(a0, (oc12 0 0 q1 q2 q3 q4 0 q5 0 0 0 0 0 (-1) 0 0 q6 0 q7 q8 0 q9 q10 0 0 q11 q12 0 q13 q14 0 0 0 0 0 0 0 0 q15 0 0 q16 0 q17 q18 q19 0 q20 q21 0 q22 0)), (q1, (arI G 7 (fun _ => 0))), (q2, (arI G 5740 (upd (upd (upd (fun _ => 0) 3 (-1)) 4 1000) 6 (-1)))), (q3, (arI G 11480 (fun _ => 0))), (q4, (arZ G 2 (fun _ => 0))), (q5, (arI G 400 (fun _ => 0))), (q6, (arI G 96 (fun _ => 0))), (q7, (arI G 400 (fun _ => 0))), (q8, (arI G 400 (fun _ => 0))), (q9, (arI G 400 (fun _ => 0))), (q10, (arI G 400 (fun _ => 0))), (q11, (arJ G 8 (vp_updL (vp_updL (vp_updL (vp_updL (vp_updL (vp_updL (vp_updL (vp_updL (fun _ => 0) 0 7734899) 1 24) 2 25) 3 278194) 4 23609) 5 81049) 6 20583955) 7 86285588))), (q12, (arJ G 4 (vp_updL (vp_updL (vp_updL (vp_updL (fun _ => 0) 0 394885) 1 153204) 2 117118547) 3 3544114))), (q13, (arJ G 13 (fun _ => 0))), (q14, (arJ G 400 (fun _ => 0))), (q15, (arI G 200 (fun _ => 0))), (q16, (arZ G 1536 (fun _ => 0))), (q17, (arJ G 49152 (fun _ => 0))), (q18, (arJ G 49152 (fun _ => 0))), (q19, (arI G 1536 (fun _ => 0))), (q20, (arZ G 1536 (fun _ => 0))), (q21, (arZ G 1536 (fun _ => 0))), (q22, (arI G 24 (fun _ => 0)))], rfl, ⟨q1, q2, q3, q4, q5, q6, q7, q8, q9, q10, q11, q12, q13, q14, q15, q16, q17, q18, q19, q20, q21, q22, rfl⟩, by rw [ht]; exact hP, hD⟩, hS.F ht⟩) hS.2.2 dX12_init_294
theorem cd_X12_init : Cond.code yX12_init cX12_init 1 none ∈ tblG := tg 1188 (by decide +kernel) (by decide +kernel)
theorem gW_X12_init : GoodIn tblG (wsG yX12_init cX12_init 1 none) := tgi cd_X12_init
theorem ml_L_12 : Cond.methodLink RL 12 yX12_init ∈ tblG := tg 1186 (by decide +kernel) (by decide +kernel)
theorem im_X12_init : Cond.instanceMethod yX12_init ∈ tblG := tg 1187 (by decide +kernel) (by decide +kernel)
theorem hs_X12_init : yX12_init.cls ≠ "java/lang/invoke/MethodHandle" ∧ yX12_init.cls ≠ "java/lang/invoke/VarHandle" ∧ (parseMethodDescriptor yX12_init.desc).map (fun d => d.parameters.length) = some 0 := by decide +kernel
