theorem dgX6_copyFrom_0 : ∀ r ∈ ([(0, (.aload_n 1, 1)), (1, (.getfield 21, 3)), (4, (.arraylength, 1)), (5, (.aload_n 0, 1)), (6, (.getfield 21, 3)), (9, (.arraylength, 1)), (10, (.if_icmp .ne 29, 3)), (13, (.aload_n 1, 1)), (14, (.getfield 21, 3)), (17, (.iconst 0, 1)), (18, (.aload_n 0, 1)), (19, (.getfield 21, 3)), (22, (.iconst 0, 1)), (23, (.aload_n 0, 1)), (24, (.getfield 21, 3)), (27, (.arraylength, 1)), (28, (.invokestatic 37, 3)), (31, (.aload_n 0, 1)), (32, (.aload_n 1, 1)), (33, (.getfield 9, 3)), (36, (.putfield 9, 3)), (39, (.return_, 1))] : List (Nat × (Instr × Nat))), decode cX6_copyFrom r.1 = .ok r.2 := by decide +kernel
theorem dX6_copyFrom_0 : decode cX6_copyFrom 0 = .ok (.aload_n 1, 1) := dgX6_copyFrom_0 (0, (.aload_n 1, 1)) (List.mem_of_getElem? (i := 0) rfl)
theorem dX6_copyFrom_1 : decode cX6_copyFrom 1 = .ok (.getfield 21, 3) := dgX6_copyFrom_0 (1, (.getfield 21, 3)) (List.mem_of_getElem? (i := 1) rfl)
theorem dX6_copyFrom_4 : decode cX6_copyFrom 4 = .ok (.arraylength, 1) := dgX6_copyFrom_0 (4, (.arraylength, 1)) (List.mem_of_getElem? (i := 2) rfl)
theorem dX6_copyFrom_5 : decode cX6_copyFrom 5 = .ok (.aload_n 0, 1) := dgX6_copyFrom_0 (5, (.aload_n 0, 1)) (List.mem_of_getElem? (i := 3) rfl)
theorem dX6_copyFrom_6 : decode cX6_copyFrom 6 = .ok (.getfield 21, 3) := dgX6_copyFrom_0 (6, (.getfield 21, 3)) (List.mem_of_getElem? (i := 4) rfl)
theorem dX6_copyFrom_9 : decode cX6_copyFrom 9 = .ok (.arraylength, 1) := dgX6_copyFrom_0 (9, (.arraylength, 1)) (List.mem_of_getElem? (i := 5) rfl)
theorem dX6_copyFrom_10 : decode cX6_copyFrom 10 = .ok (.if_icmp .ne 29, 3) := dgX6_copyFrom_0 (10, (.if_icmp .ne 29, 3)) (List.mem_of_getElem? (i := 6) rfl)
theorem dX6_copyFrom_13 : decode cX6_copyFrom 13 = .ok (.aload_n 1, 1) := dgX6_copyFrom_0 (13, (.aload_n 1, 1)) (List.mem_of_getElem? (i := 7) rfl)
theorem dX6_copyFrom_14 : decode cX6_copyFrom 14 = .ok (.getfield 21, 3) := dgX6_copyFrom_0 (14, (.getfield 21, 3)) (List.mem_of_getElem? (i := 8) rfl)
theorem dX6_copyFrom_17 : decode cX6_copyFrom 17 = .ok (.iconst 0, 1) := dgX6_copyFrom_0 (17, (.iconst 0, 1)) (List.mem_of_getElem? (i := 9) rfl)
theorem dX6_copyFrom_18 : decode cX6_copyFrom 18 = .ok (.aload_n 0, 1) := dgX6_copyFrom_0 (18, (.aload_n 0, 1)) (List.mem_of_getElem? (i := 10) rfl)
theorem dX6_copyFrom_19 : decode cX6_copyFrom 19 = .ok (.getfield 21, 3) := dgX6_copyFrom_0 (19, (.getfield 21, 3)) (List.mem_of_getElem? (i := 11) rfl)
theorem dX6_copyFrom_22 : decode cX6_copyFrom 22 = .ok (.iconst 0, 1) := dgX6_copyFrom_0 (22, (.iconst 0, 1)) (List.mem_of_getElem? (i := 12) rfl)
theorem dX6_copyFrom_23 : decode cX6_copyFrom 23 = .ok (.aload_n 0, 1) := dgX6_copyFrom_0 (23, (.aload_n 0, 1)) (List.mem_of_getElem? (i := 13) rfl)
theorem dX6_copyFrom_24 : decode cX6_copyFrom 24 = .ok (.getfield 21, 3) := dgX6_copyFrom_0 (24, (.getfield 21, 3)) (List.mem_of_getElem? (i := 14) rfl)
theorem dX6_copyFrom_27 : decode cX6_copyFrom 27 = .ok (.arraylength, 1) := dgX6_copyFrom_0 (27, (.arraylength, 1)) (List.mem_of_getElem? (i := 15) rfl)
theorem dX6_copyFrom_28 : decode cX6_copyFrom 28 = .ok (.invokestatic 37, 3) := dgX6_copyFrom_0 (28, (.invokestatic 37, 3)) (List.mem_of_getElem? (i := 16) rfl)
theorem dX6_copyFrom_31 : decode cX6_copyFrom 31 = .ok (.aload_n 0, 1) := dgX6_copyFrom_0 (31, (.aload_n 0, 1)) (List.mem_of_getElem? (i := 17) rfl)
theorem dX6_copyFrom_32 : decode cX6_copyFrom 32 = .ok (.aload_n 1, 1) := dgX6_copyFrom_0 (32, (.aload_n 1, 1)) (List.mem_of_getElem? (i := 18) rfl)
theorem dX6_copyFrom_33 : decode cX6_copyFrom 33 = .ok (.getfield 9, 3) := dgX6_copyFrom_0 (33, (.getfield 9, 3)) (List.mem_of_getElem? (i := 19) rfl)
theorem dX6_copyFrom_36 : decode cX6_copyFrom 36 = .ok (.putfield 9, 3) := dgX6_copyFrom_0 (36, (.putfield 9, 3)) (List.mem_of_getElem? (i := 20) rfl)
theorem dX6_copyFrom_39 : decode cX6_copyFrom 39 = .ok (.return_, 1) := dgX6_copyFrom_0 (39, (.return_, 1)) (List.mem_of_getElem? (i := 21) rfl)
theorem ml_X6_37 : Cond.methodLink RX6 37 arraycopyName ∈ tblG := tg 946 (by decide +kernel) (by decide +kernel)
theorem ac_nat : Cond.native arraycopyName ∈ tblG := tg 773 (by decide +kernel) (by decide +kernel)
theorem ac_st : Cond.static arraycopyName ∈ tblG := tg 772 (by decide +kernel) (by decide +kernel)
theorem ac_ini : Cond.initialized "java/lang/System" ∈ tblG := tg 107 (by decide +kernel) (by decide +kernel)
set_option maxHeartbeats 4000000 in
set_option maxRecDepth 100000 in
theorem t_copyFrom_G (l : Launch) (G : g5_G) (a_t a_n a_o a_on : Nat) (sz : Nat) (e_n : Int32) (e_o : Int32) (f_n : Nat → Int32) (f_o : Nat → Int32) (h_e_n : 0 ≤ e_n.toInt ∧ e_n.toInt ≤ 6) (h_e_o : 0 ≤ e_o.toInt ∧ e_o.toInt ≤ 6) : Met l yX6_copyFrom (wsG yX6_copyFrom cX6_copyFrom 2 none) ({ frames := 1, cells := 0, slots := 0, locals := 60 }) (va_Pc [.ref a_t, .ref a_o] (g5_P G [(a_t, (oc6 6 5 a_n e_n)), (a_n, (arI G 30 f_n)), (a_o, (oc6 6 5 a_on e_o)), (a_on, (arI G 30 f_o))] sz)) (va_Qv (fun (u : va_W) => ((u = [(a_t, (oc6 6 5 a_n e_o)), (a_n, (arI G 30 (va_cpy f_o f_n 0 0 30))), (a_o, (oc6 6 5 a_on e_o)), (a_on, (arI G 30 f_o))]))) (g5_B G (va_A [(a_t, (oc6 6 5 a_n e_n)), (a_n, (arI G 30 f_n)), (a_o, (oc6 6 5 a_on e_o)), (a_on, (arI G 30 f_o))] sz)) (va_A [(a_t, (oc6 6 5 a_n e_n)), (a_n, (arI G 30 f_n)), (a_o, (oc6 6 5 a_on e_o)), (a_on, (arI G 30 f_o))] sz)) 0 0 (va_A [(a_t, (oc6 6 5 a_n e_n)), (a_n, (arI G 30 f_n)), (a_o, (oc6 6 5 a_on e_o)), (a_on, (arI G 30 f_o))] sz) := by
  refine Met.ofW (cc := cX6_copyFrom) (maxL := 2) (ret := none) (by decide) rfl ?_
  intro p e s m args below meth c s₁ B hml hv
  obtain ⟨rfl, hsz, hP, hK, hD0, hN, hT⟩ := hv
  have hx := B.exec
  have hb := B.bytes
  have hr := B.returns
  have hts : ∀ w ∈ tblG, w.before _ s = true := fun w h => atoms_spec (ws := (wsG yX6_copyFrom cX6_copyFrom 2 none)) B.pre w (List.mem_cons_of_mem _ h)
  have hown : s.vm.findClass RX6 = some m.cls := findClass_of_methodNamed B.named
  have hlocks := B.notSynchronized
  subst hsz
  have hD := hD0.self (sz := s.heap.size)
  generalize hAe : va_A [(a_t, (oc6 6 5 a_n e_n)), (a_n, (arI G 30 f_n)), (a_o, (oc6 6 5 a_on e_o)), (a_on, (arI G 30 f_o))] s.heap.size = A at hD hT ⊢
  have hA : ∀ q : Nat, s.heap.size ≤ q → A q := fun q h => by rw [← hAe]; exact Or.inr h
  have hS : va_S A s.heap s.heap [] := va_S.rf
  have hP : va_P G.1 vwCl [(a_t, (oc6 6 5 a_n e_n)), (a_n, (arI G 30 f_n)), (a_o, (oc6 6 5 a_on e_o)), (a_on, (arI G 30 f_o))] s.heap := hP
  have hl := lv_entry ([.ref a_t, .ref a_o]) (n := 2) (Nat.le_of_ble_eq_true rfl)
  rw [lg_entry_eq]
  generalize (lg_sl ([.ref a_t, .ref a_o]) ++ List.replicate (2 - (lg_sl ([.ref a_t, .ref a_o])).length) Slot.unset).toArray = ls at hl ⊢
  have hl : lv_has ls 2 [(0, .ref a_t), (1, .ref a_o)] := hl
  refine lv_aload_n hx hb dX6_copyFrom_0 rfl (lv_at hl 1 rfl) ?_
  refine va_get (D := G.1) (ci := 6) (v := .ref a_on) (C := RX6) (T := TX6) (N := 4) hx hb hts inG_X6 hown hK hP 2 rfl rfl 2 (by decide) (hts _ fl_X6_21) (fun _ h9 => h9) rfl dX6_copyFrom_1 ?_
  refine va_alen hx hb hK hP 3 0 rfl rfl (v := 30) (by show Int32.ofNat 30 = 30; decide) dX6_copyFrom_4 ?_
  refine lv_aload_n hx hb dX6_copyFrom_5 rfl (lv_at hl 0 rfl) ?_
  refine va_get (D := G.1) (ci := 6) (v := .ref a_n) (C := RX6) (T := TX6) (N := 4) hx hb hts inG_X6 hown hK hP 0 rfl rfl 2 (by decide) (hts _ fl_X6_21) (fun _ h9 => h9) rfl dX6_copyFrom_6 ?_
  refine va_alen hx hb hK hP 1 0 rfl rfl (v := 30) (by show Int32.ofNat 30 = 30; decide) dX6_copyFrom_9 ?_
  refine lv_icmp_ne (tgt := 39) hx hb dX6_copyFrom_10 (by decide) (fun c_1 => ?_) (fun c_1 => ?_)
  ·
    exact absurd c_1 (by decide)
  ·
    refine lv_aload_n hx hb dX6_copyFrom_13 rfl (lv_at hl 1 rfl) ?_
    refine va_get (D := G.1) (ci := 6) (v := .ref a_on) (C := RX6) (T := TX6) (N := 4) hx hb hts inG_X6 hown hK hP 2 rfl rfl 2 (by decide) (hts _ fl_X6_21) (fun _ h9 => h9) rfl dX6_copyFrom_14 ?_
    refine lv_iconst (v := 0) hx hb dX6_copyFrom_17 (by decide) ?_
    refine lv_aload_n hx hb dX6_copyFrom_18 rfl (lv_at hl 0 rfl) ?_
    refine va_get (D := G.1) (ci := 6) (v := .ref a_n) (C := RX6) (T := TX6) (N := 4) hx hb hts inG_X6 hown hK hP 0 rfl rfl 2 (by decide) (hts _ fl_X6_21) (fun _ h9 => h9) rfl dX6_copyFrom_19 ?_
    refine lv_iconst (v := 0) hx hb dX6_copyFrom_22 (by decide) ?_
    refine lv_aload_n hx hb dX6_copyFrom_23 rfl (lv_at hl 0 rfl) ?_
    refine va_get (D := G.1) (ci := 6) (v := .ref a_n) (C := RX6) (T := TX6) (N := 4) hx hb hts inG_X6 hown hK hP 0 rfl rfl 2 (by decide) (hts _ fl_X6_21) (fun _ h9 => h9) rfl dX6_copyFrom_24 ?_
    refine va_alen hx hb hK hP 1 0 rfl rfl (v := 30) (by show Int32.ofNat 30 = 30; decide) dX6_copyFrom_27 ?_
    refine va_copyi hx hb (hml.trans hl.1.symm) hown (hts _ ml_X6_37) (hts _ ac_nat) (hts _ ac_st) (hts _ ac_ini) hK hP hD hS 3 1 0 0 rfl rfl rfl rfl rfl (sp := 0) (dp := 0) (n := 30) (by decide) (by decide) (by decide) (by decide) (by decide) (fun _ _ => rfl) (Nat.le_of_ble_eq_true rfl) (by decide) dX6_copyFrom_28 (fun H locs hP hD hS => ?_)
    refine g5_rs [(a_t, (oc6 6 5 a_n e_n)), (a_n, (arI G 30 (va_cpy f_o f_n 0 0 30))), (a_o, (oc6 6 5 a_on e_o)), (a_on, (arI G 30 f_o))] hP hD (fun hP hD => ?_)
    refine lv_aload_n hx hb dX6_copyFrom_31 rfl (lv_at hl 0 rfl) ?_
    refine lv_aload_n hx hb dX6_copyFrom_32 rfl (lv_at hl 1 rfl) ?_
    refine va_get (D := G.1) (ci := 6) (v := .int e_o) (C := RX6) (T := TX6) (N := 4) hx hb hts inG_X6 hown hK hP 2 rfl rfl 3 (by decide) (hts _ fl_X6_9) (fun _ h9 => h9) rfl dX6_copyFrom_33 ?_
    refine va_put (D := G.1) (ci := 6) (v := .int e_o) (ty := .int) (C := RX6) (T := TX6) (N := 4) hx hb hts inG_X6 tyX6 tyX6_ok nmX6 hown hK hP hD hS 0 rfl rfl 3 (by decide) (hts _ fl_X6_9) (fun _ h9 => h9) rfl (by decide +kernel) rfl rfl (Nat.le_of_ble_eq_true rfl) dX6_copyFrom_36 (fun H locs hP hD hS => ?_)
    refine g5_rs [(a_t, (oc6 6 5 a_n e_o)), (a_n, (arI G 30 (va_cpy f_o f_n 0 0 30))), (a_o, (oc6 6 5 a_on e_o)), (a_on, (arI G 30 f_o))] hP hD (fun hP hD => ?_)
    exact W.vret hx hb hr (fun t ht hW => ⟨⟨[(a_t, (oc6 6 5 a_n e_o)), (a_n, (arI G 30 (va_cpy f_o f_n 0 0 30))), (a_o, (oc6 6 5 a_on e_o)), (a_on, (arI G 30 f_o))], rfl, rfl, by rw [ht]; exact hP.sub [0, 1, 2, 3] rfl, hD.sub [0, 1, 2, 3] (by decide) rfl⟩, hS.F ht⟩) hS.2.2 dX6_copyFrom_39
set_option maxHeartbeats 4000000 in
set_option maxRecDepth 100000 in
theorem t_copyFrom_B (l : Launch) (G : g5_G) (a_t a_n a_o a_on : Nat) (sz : Nat) (e_n : Int32) (e_o : Int32) (f_n : Nat → Int32) (f_o : Nat → Int32) (h_e_n : 0 ≤ e_n.toInt ∧ e_n.toInt ≤ 5) (h_e_o : 0 ≤ e_o.toInt ∧ e_o.toInt ≤ 5) : Met l yX6_copyFrom (wsG yX6_copyFrom cX6_copyFrom 2 none) ({ frames := 1, cells := 0, slots := 0, locals := 60 }) (va_Pc [.ref a_t, .ref a_o] (g5_P G [(a_t, (oc6 5 24 a_n e_n)), (a_n, (arI G 120 f_n)), (a_o, (oc6 5 24 a_on e_o)), (a_on, (arI G 120 f_o))] sz)) (va_Qv (fun (u : va_W) => ((u = [(a_t, (oc6 5 24 a_n e_o)), (a_n, (arI G 120 (va_cpy f_o f_n 0 0 120))), (a_o, (oc6 5 24 a_on e_o)), (a_on, (arI G 120 f_o))]))) (g5_B G (va_A [(a_t, (oc6 5 24 a_n e_n)), (a_n, (arI G 120 f_n)), (a_o, (oc6 5 24 a_on e_o)), (a_on, (arI G 120 f_o))] sz)) (va_A [(a_t, (oc6 5 24 a_n e_n)), (a_n, (arI G 120 f_n)), (a_o, (oc6 5 24 a_on e_o)), (a_on, (arI G 120 f_o))] sz)) 0 0 (va_A [(a_t, (oc6 5 24 a_n e_n)), (a_n, (arI G 120 f_n)), (a_o, (oc6 5 24 a_on e_o)), (a_on, (arI G 120 f_o))] sz) := by
  refine Met.ofW (cc := cX6_copyFrom) (maxL := 2) (ret := none) (by decide) rfl ?_
  intro p e s m args below meth c s₁ B hml hv
  obtain ⟨rfl, hsz, hP, hK, hD0, hN, hT⟩ := hv
  have hx := B.exec
  have hb := B.bytes
  have hr := B.returns
  have hts : ∀ w ∈ tblG, w.before _ s = true := fun w h => atoms_spec (ws := (wsG yX6_copyFrom cX6_copyFrom 2 none)) B.pre w (List.mem_cons_of_mem _ h)
  have hown : s.vm.findClass RX6 = some m.cls := findClass_of_methodNamed B.named
  have hlocks := B.notSynchronized
  subst hsz
  have hD := hD0.self (sz := s.heap.size)
  generalize hAe : va_A [(a_t, (oc6 5 24 a_n e_n)), (a_n, (arI G 120 f_n)), (a_o, (oc6 5 24 a_on e_o)), (a_on, (arI G 120 f_o))] s.heap.size = A at hD hT ⊢
  have hA : ∀ q : Nat, s.heap.size ≤ q → A q := fun q h => by rw [← hAe]; exact Or.inr h
  have hS : va_S A s.heap s.heap [] := va_S.rf
  have hP : va_P G.1 vwCl [(a_t, (oc6 5 24 a_n e_n)), (a_n, (arI G 120 f_n)), (a_o, (oc6 5 24 a_on e_o)), (a_on, (arI G 120 f_o))] s.heap := hP
  have hl := lv_entry ([.ref a_t, .ref a_o]) (n := 2) (Nat.le_of_ble_eq_true rfl)
  rw [lg_entry_eq]
  generalize (lg_sl ([.ref a_t, .ref a_o]) ++ List.replicate (2 - (lg_sl ([.ref a_t, .ref a_o])).length) Slot.unset).toArray = ls at hl ⊢
  have hl : lv_has ls 2 [(0, .ref a_t), (1, .ref a_o)] := hl
  refine lv_aload_n hx hb dX6_copyFrom_0 rfl (lv_at hl 1 rfl) ?_
  refine va_get (D := G.1) (ci := 6) (v := .ref a_on) (C := RX6) (T := TX6) (N := 4) hx hb hts inG_X6 hown hK hP 2 rfl rfl 2 (by decide) (hts _ fl_X6_21) (fun _ h9 => h9) rfl dX6_copyFrom_1 ?_
  refine va_alen hx hb hK hP 3 0 rfl rfl (v := 120) (by show Int32.ofNat 120 = 120; decide) dX6_copyFrom_4 ?_
  refine lv_aload_n hx hb dX6_copyFrom_5 rfl (lv_at hl 0 rfl) ?_
  refine va_get (D := G.1) (ci := 6) (v := .ref a_n) (C := RX6) (T := TX6) (N := 4) hx hb hts inG_X6 hown hK hP 0 rfl rfl 2 (by decide) (hts _ fl_X6_21) (fun _ h9 => h9) rfl dX6_copyFrom_6 ?_
  refine va_alen hx hb hK hP 1 0 rfl rfl (v := 120) (by show Int32.ofNat 120 = 120; decide) dX6_copyFrom_9 ?_
  refine lv_icmp_ne (tgt := 39) hx hb dX6_copyFrom_10 (by decide) (fun c_1 => ?_) (fun c_1 => ?_)
  ·
    exact absurd c_1 (by decide)
  ·
    refine lv_aload_n hx hb dX6_copyFrom_13 rfl (lv_at hl 1 rfl) ?_
    refine va_get (D := G.1) (ci := 6) (v := .ref a_on) (C := RX6) (T := TX6) (N := 4) hx hb hts inG_X6 hown hK hP 2 rfl rfl 2 (by decide) (hts _ fl_X6_21) (fun _ h9 => h9) rfl dX6_copyFrom_14 ?_
    refine lv_iconst (v := 0) hx hb dX6_copyFrom_17 (by decide) ?_
    refine lv_aload_n hx hb dX6_copyFrom_18 rfl (lv_at hl 0 rfl) ?_
    refine va_get (D := G.1) (ci := 6) (v := .ref a_n) (C := RX6) (T := TX6) (N := 4) hx hb hts inG_X6 hown hK hP 0 rfl rfl 2 (by decide) (hts _ fl_X6_21) (fun _ h9 => h9) rfl dX6_copyFrom_19 ?_
    refine lv_iconst (v := 0) hx hb dX6_copyFrom_22 (by decide) ?_
    refine lv_aload_n hx hb dX6_copyFrom_23 rfl (lv_at hl 0 rfl) ?_
    refine va_get (D := G.1) (ci := 6) (v := .ref a_n) (C := RX6) (T := TX6) (N := 4) hx hb hts inG_X6 hown hK hP 0 rfl rfl 2 (by decide) (hts _ fl_X6_21) (fun _ h9 => h9) rfl dX6_copyFrom_24 ?_
    refine va_alen hx hb hK hP 1 0 rfl rfl (v := 120) (by show Int32.ofNat 120 = 120; decide) dX6_copyFrom_27 ?_
    refine va_copyi hx hb (hml.trans hl.1.symm) hown (hts _ ml_X6_37) (hts _ ac_nat) (hts _ ac_st) (hts _ ac_ini) hK hP hD hS 3 1 0 0 rfl rfl rfl rfl rfl (sp := 0) (dp := 0) (n := 120) (by decide) (by decide) (by decide) (by decide) (by decide) (fun _ _ => rfl) (Nat.le_of_ble_eq_true rfl) (by decide) dX6_copyFrom_28 (fun H locs hP hD hS => ?_)
    refine g5_rs [(a_t, (oc6 5 24 a_n e_n)), (a_n, (arI G 120 (va_cpy f_o f_n 0 0 120))), (a_o, (oc6 5 24 a_on e_o)), (a_on, (arI G 120 f_o))] hP hD (fun hP hD => ?_)
    refine lv_aload_n hx hb dX6_copyFrom_31 rfl (lv_at hl 0 rfl) ?_
    refine lv_aload_n hx hb dX6_copyFrom_32 rfl (lv_at hl 1 rfl) ?_
    refine va_get (D := G.1) (ci := 6) (v := .int e_o) (C := RX6) (T := TX6) (N := 4) hx hb hts inG_X6 hown hK hP 2 rfl rfl 3 (by decide) (hts _ fl_X6_9) (fun _ h9 => h9) rfl dX6_copyFrom_33 ?_
    refine va_put (D := G.1) (ci := 6) (v := .int e_o) (ty := .int) (C := RX6) (T := TX6) (N := 4) hx hb hts inG_X6 tyX6 tyX6_ok nmX6 hown hK hP hD hS 0 rfl rfl 3 (by decide) (hts _ fl_X6_9) (fun _ h9 => h9) rfl (by decide +kernel) rfl rfl (Nat.le_of_ble_eq_true rfl) dX6_copyFrom_36 (fun H locs hP hD hS => ?_)
    refine g5_rs [(a_t, (oc6 5 24 a_n e_o)), (a_n, (arI G 120 (va_cpy f_o f_n 0 0 120))), (a_o, (oc6 5 24 a_on e_o)), (a_on, (arI G 120 f_o))] hP hD (fun hP hD => ?_)
    exact W.vret hx hb hr (fun t ht hW => ⟨⟨[(a_t, (oc6 5 24 a_n e_o)), (a_n, (arI G 120 (va_cpy f_o f_n 0 0 120))), (a_o, (oc6 5 24 a_on e_o)), (a_on, (arI G 120 f_o))], rfl, rfl, by rw [ht]; exact hP.sub [0, 1, 2, 3] rfl, hD.sub [0, 1, 2, 3] (by decide) rfl⟩, hS.F ht⟩) hS.2.2 dX6_copyFrom_39
theorem dgX6_remove_0 : ∀ r ∈ ([(0, (.aload_n 0, 1)), (1, (.iload_n 1, 1)), (2, (.invokevirtual 25, 3)), (5, (.ifCond .ne 4, 3)), (8, (.return_, 1)), (9, (.iload_n 1, 1)), (10, (.iconst 1, 1)), (11, (.iadd, 1)), (12, (.aload_n 0, 1)), (13, (.getfield 18, 3)), (16, (.imul, 1)), (17, (.istore_n 2, 1)), (18, (.aload_n 0, 1)), (19, (.getfield 21, 3)), (22, (.iload_n 2, 1)), (23, (.aload_n 0, 1)), (24, (.getfield 21, 3)), (27, (.iload_n 1, 1)), (28, (.aload_n 0, 1)), (29, (.getfield 18, 3)), (32, (.imul, 1)), (33, (.aload_n 0, 1)), (34, (.getfield 9, 3)), (37, (.aload_n 0, 1)), (38, (.getfield 18, 3)), (41, (.imul, 1)), (42, (.iload_n 2, 1)), (43, (.isub, 1)), (44, (.invokestatic 37, 3)), (47, (.aload_n 0, 1)), (48, (.dup, 1)), (49, (.getfield 9, 3)), (52, (.iconst 1, 1)), (53, (.isub, 1)), (54, (.putfield 9, 3)), (57, (.return_, 1))] : List (Nat × (Instr × Nat))), decode cX6_remove r.1 = .ok r.2 := by decide +kernel
theorem dX6_remove_0 : decode cX6_remove 0 = .ok (.aload_n 0, 1) := dgX6_remove_0 (0, (.aload_n 0, 1)) (List.mem_of_getElem? (i := 0) rfl)
theorem dX6_remove_1 : decode cX6_remove 1 = .ok (.iload_n 1, 1) := dgX6_remove_0 (1, (.iload_n 1, 1)) (List.mem_of_getElem? (i := 1) rfl)
theorem dX6_remove_2 : decode cX6_remove 2 = .ok (.invokevirtual 25, 3) := dgX6_remove_0 (2, (.invokevirtual 25, 3)) (List.mem_of_getElem? (i := 2) rfl)
theorem dX6_remove_5 : decode cX6_remove 5 = .ok (.ifCond .ne 4, 3) := dgX6_remove_0 (5, (.ifCond .ne 4, 3)) (List.mem_of_getElem? (i := 3) rfl)
theorem dX6_remove_8 : decode cX6_remove 8 = .ok (.return_, 1) := dgX6_remove_0 (8, (.return_, 1)) (List.mem_of_getElem? (i := 4) rfl)
theorem dX6_remove_9 : decode cX6_remove 9 = .ok (.iload_n 1, 1) := dgX6_remove_0 (9, (.iload_n 1, 1)) (List.mem_of_getElem? (i := 5) rfl)
theorem dX6_remove_10 : decode cX6_remove 10 = .ok (.iconst 1, 1) := dgX6_remove_0 (10, (.iconst 1, 1)) (List.mem_of_getElem? (i := 6) rfl)
theorem dX6_remove_11 : decode cX6_remove 11 = .ok (.iadd, 1) := dgX6_remove_0 (11, (.iadd, 1)) (List.mem_of_getElem? (i := 7) rfl)
theorem dX6_remove_12 : decode cX6_remove 12 = .ok (.aload_n 0, 1) := dgX6_remove_0 (12, (.aload_n 0, 1)) (List.mem_of_getElem? (i := 8) rfl)
theorem dX6_remove_13 : decode cX6_remove 13 = .ok (.getfield 18, 3) := dgX6_remove_0 (13, (.getfield 18, 3)) (List.mem_of_getElem? (i := 9) rfl)
theorem dX6_remove_16 : decode cX6_remove 16 = .ok (.imul, 1) := dgX6_remove_0 (16, (.imul, 1)) (List.mem_of_getElem? (i := 10) rfl)
theorem dX6_remove_17 : decode cX6_remove 17 = .ok (.istore_n 2, 1) := dgX6_remove_0 (17, (.istore_n 2, 1)) (List.mem_of_getElem? (i := 11) rfl)
theorem dX6_remove_18 : decode cX6_remove 18 = .ok (.aload_n 0, 1) := dgX6_remove_0 (18, (.aload_n 0, 1)) (List.mem_of_getElem? (i := 12) rfl)
theorem dX6_remove_19 : decode cX6_remove 19 = .ok (.getfield 21, 3) := dgX6_remove_0 (19, (.getfield 21, 3)) (List.mem_of_getElem? (i := 13) rfl)
theorem dX6_remove_22 : decode cX6_remove 22 = .ok (.iload_n 2, 1) := dgX6_remove_0 (22, (.iload_n 2, 1)) (List.mem_of_getElem? (i := 14) rfl)
theorem dX6_remove_23 : decode cX6_remove 23 = .ok (.aload_n 0, 1) := dgX6_remove_0 (23, (.aload_n 0, 1)) (List.mem_of_getElem? (i := 15) rfl)
theorem dX6_remove_24 : decode cX6_remove 24 = .ok (.getfield 21, 3) := dgX6_remove_0 (24, (.getfield 21, 3)) (List.mem_of_getElem? (i := 16) rfl)
theorem dX6_remove_27 : decode cX6_remove 27 = .ok (.iload_n 1, 1) := dgX6_remove_0 (27, (.iload_n 1, 1)) (List.mem_of_getElem? (i := 17) rfl)
theorem dX6_remove_28 : decode cX6_remove 28 = .ok (.aload_n 0, 1) := dgX6_remove_0 (28, (.aload_n 0, 1)) (List.mem_of_getElem? (i := 18) rfl)
theorem dX6_remove_29 : decode cX6_remove 29 = .ok (.getfield 18, 3) := dgX6_remove_0 (29, (.getfield 18, 3)) (List.mem_of_getElem? (i := 19) rfl)
theorem dX6_remove_32 : decode cX6_remove 32 = .ok (.imul, 1) := dgX6_remove_0 (32, (.imul, 1)) (List.mem_of_getElem? (i := 20) rfl)
theorem dX6_remove_33 : decode cX6_remove 33 = .ok (.aload_n 0, 1) := dgX6_remove_0 (33, (.aload_n 0, 1)) (List.mem_of_getElem? (i := 21) rfl)
theorem dX6_remove_34 : decode cX6_remove 34 = .ok (.getfield 9, 3) := dgX6_remove_0 (34, (.getfield 9, 3)) (List.mem_of_getElem? (i := 22) rfl)
theorem dX6_remove_37 : decode cX6_remove 37 = .ok (.aload_n 0, 1) := dgX6_remove_0 (37, (.aload_n 0, 1)) (List.mem_of_getElem? (i := 23) rfl)
theorem dX6_remove_38 : decode cX6_remove 38 = .ok (.getfield 18, 3) := dgX6_remove_0 (38, (.getfield 18, 3)) (List.mem_of_getElem? (i := 24) rfl)
theorem dX6_remove_41 : decode cX6_remove 41 = .ok (.imul, 1) := dgX6_remove_0 (41, (.imul, 1)) (List.mem_of_getElem? (i := 25) rfl)
theorem dX6_remove_42 : decode cX6_remove 42 = .ok (.iload_n 2, 1) := dgX6_remove_0 (42, (.iload_n 2, 1)) (List.mem_of_getElem? (i := 26) rfl)
theorem dX6_remove_43 : decode cX6_remove 43 = .ok (.isub, 1) := dgX6_remove_0 (43, (.isub, 1)) (List.mem_of_getElem? (i := 27) rfl)
theorem dX6_remove_44 : decode cX6_remove 44 = .ok (.invokestatic 37, 3) := dgX6_remove_0 (44, (.invokestatic 37, 3)) (List.mem_of_getElem? (i := 28) rfl)
theorem dX6_remove_47 : decode cX6_remove 47 = .ok (.aload_n 0, 1) := dgX6_remove_0 (47, (.aload_n 0, 1)) (List.mem_of_getElem? (i := 29) rfl)
theorem dX6_remove_48 : decode cX6_remove 48 = .ok (.dup, 1) := dgX6_remove_0 (48, (.dup, 1)) (List.mem_of_getElem? (i := 30) rfl)
theorem dX6_remove_49 : decode cX6_remove 49 = .ok (.getfield 9, 3) := dgX6_remove_0 (49, (.getfield 9, 3)) (List.mem_of_getElem? (i := 31) rfl)
theorem dX6_remove_52 : decode cX6_remove 52 = .ok (.iconst 1, 1) := dgX6_remove_0 (52, (.iconst 1, 1)) (List.mem_of_getElem? (i := 32) rfl)
theorem dX6_remove_53 : decode cX6_remove 53 = .ok (.isub, 1) := dgX6_remove_0 (53, (.isub, 1)) (List.mem_of_getElem? (i := 33) rfl)
theorem dX6_remove_54 : decode cX6_remove 54 = .ok (.putfield 9, 3) := dgX6_remove_0 (54, (.putfield 9, 3)) (List.mem_of_getElem? (i := 34) rfl)
theorem dX6_remove_57 : decode cX6_remove 57 = .ok (.return_, 1) := dgX6_remove_0 (57, (.return_, 1)) (List.mem_of_getElem? (i := 35) rfl)
set_option maxHeartbeats 4000000 in
set_option maxRecDepth 100000 in
theorem t_remove_S (l : Launch) (G : g5_G) (a_t a_n : Nat) (sz : Nat) (e_n : Int32) (p_r : Int32) (f_n : Nat → Int32) (h_e_n : 0 ≤ e_n.toInt ∧ e_n.toInt ≤ 10) : Met l yX6_remove (wsG yX6_remove cX6_remove 3 none) ({ frames := 1, cells := 0, slots := 0, locals := 60 }) (va_Pc [.ref a_t, .int p_r] (g5_P G [(a_t, (oc6 10 4 a_n e_n)), (a_n, (arI G 40 f_n))] sz)) (va_Qv (fun (u : va_W) => ((p_r.toInt < 0 ∨ e_n.toInt ≤ p_r.toInt) ∧ (u = [(a_t, (oc6 10 4 a_n e_n)), (a_n, (arI G 40 f_n))])) ∨ (∃ (o_f : Nat → Int32), (0 ≤ p_r.toInt ∧ p_r.toInt < e_n.toInt) ∧ ((e_n - 1).toInt = e_n.toInt - 1) ∧ (o_f = trem f_n e_n.toInt 4 p_r.toInt) ∧ (u = [(a_t, (oc6 10 4 a_n (e_n - 1))), (a_n, (arI G 40 o_f))]))) (g5_B G (va_A [(a_t, (oc6 10 4 a_n e_n)), (a_n, (arI G 40 f_n))] sz)) (va_A [(a_t, (oc6 10 4 a_n e_n)), (a_n, (arI G 40 f_n))] sz)) 0 0 (va_A [(a_t, (oc6 10 4 a_n e_n)), (a_n, (arI G 40 f_n))] sz) := by
  refine Met.ofW (cc := cX6_remove) (maxL := 3) (ret := none) (by decide) rfl ?_
  intro p e s m args below meth c s₁ B hml hv
  obtain ⟨rfl, hsz, hP, hK, hD0, hN, hT⟩ := hv
  have hx := B.exec
  have hb := B.bytes
  have hr := B.returns
  have hts : ∀ w ∈ tblG, w.before _ s = true := fun w h => atoms_spec (ws := (wsG yX6_remove cX6_remove 3 none)) B.pre w (List.mem_cons_of_mem _ h)
  have hown : s.vm.findClass RX6 = some m.cls := findClass_of_methodNamed B.named
  have hlocks := B.notSynchronized
  subst hsz
  have hD := hD0.self (sz := s.heap.size)
  generalize hAe : va_A [(a_t, (oc6 10 4 a_n e_n)), (a_n, (arI G 40 f_n))] s.heap.size = A at hD hT ⊢
  have hA : ∀ q : Nat, s.heap.size ≤ q → A q := fun q h => by rw [← hAe]; exact Or.inr h
  have hS : va_S A s.heap s.heap [] := va_S.rf
  have hP : va_P G.1 vwCl [(a_t, (oc6 10 4 a_n e_n)), (a_n, (arI G 40 f_n))] s.heap := hP
  have hl := lv_entry ([.ref a_t, .int p_r]) (n := 3) (Nat.le_of_ble_eq_true rfl)
  rw [lg_entry_eq]
  generalize (lg_sl ([.ref a_t, .int p_r]) ++ List.replicate (3 - (lg_sl ([.ref a_t, .int p_r])).length) Slot.unset).toArray = ls at hl ⊢
  have hl : lv_has ls 3 [(0, .ref a_t), (1, .int p_r)] := hl
  refine lv_aload_n hx hb dX6_remove_0 rfl (lv_at hl 0 rfl) ?_
  refine lv_iload_n hx hb dX6_remove_1 rfl (lv_at hl 1 rfl) ?_
  obtain ⟨hPc, hDc, hFc⟩ := g5_sub3 (wc := [(a_t, (oc6 10 4 a_n e_n))]) hP hD hS hA [0] (by decide) rfl
  refine va_calli (va_runV (As := [.int p_r]) (rest := []) ⟨hx, hb, hml, hown, hts⟩ (t_has_S l G a_t a_n s.heap.size e_n p_r h_e_n) (cwV 1 hts gV_X6_25 rfl rfl rfl hv_X6_has ⟨Nat.le_of_ble_eq_true rfl, Nat.le_of_ble_eq_true rfl⟩) (g5_preV hPc hK hDc hN hT hS hFc (ci := 6) (q0 := 0) rfl rfl) rfl rfl hl.1 rfl (lv_room (Nat.le_of_ble_eq_true rfl)) dX6_remove_2 ⟨Nat.le_of_ble_eq_true rfl, Nat.le_of_ble_eq_true rfl⟩) hS (fun q _ h => hFc q h) hFc (fun r u t H1 locs ht hvm hw hB hz1 hk1 hS => ?_)
  obtain ⟨hP1, hD1⟩ := hB
  rw [ht] at hP1
  rcases hw with ⟨i_1, rfl, rfl⟩ | ⟨i_2, rfl, rfl⟩
  ·
    have i_1 : 0 ≤ p_r.toInt ∧ p_r.toInt < e_n.toInt := i_1
    obtain ⟨hP, hD⟩ := va_join (wr := [(a_n, (arI G 40 f_n))]) hP hD [0] [1] rfl rfl (by decide) (by decide) hk1 hFc hP1 hD1
    generalize H1 = H at hP hS ⊢
    refine g5_rs [(a_n, (arI G 40 f_n)), (a_t, (oc6 10 4 a_n e_n))] hP hD (fun hP hD => ?_)
    refine lv_if_ne (tgt := 9) hx hb dX6_remove_5 (by decide) (fun c_3 => ?_) (fun c_3 => ?_)
    ·
      refine lv_iload_n hx hb dX6_remove_9 rfl (lv_at hl 1 rfl) ?_
      refine lv_iconst (v := 1) hx hb dX6_remove_10 (by decide) ?_
      refine lv_iadd hx hb dX6_remove_11 ?_
      have t_4 : (p_r + 1).toInt = p_r.toInt + 1 := g5_iadd (a := p_r.toInt) (b := 1) (by rfl) (by decide) (by omega) (by omega)
      refine lv_aload_n hx hb dX6_remove_12 rfl (lv_at hl 0 rfl) ?_
      refine va_get (D := G.1) (ci := 6) (v := .int 4) (C := RX6) (T := TX6) (N := 4) hx hb hts inG_X6 hown hK hP 1 rfl rfl 1 (by decide) (hts _ fl_X6_18) (fun _ h9 => h9) rfl dX6_remove_13 ?_
      refine lv_imul hx hb dX6_remove_16 ?_
      have t_5 : ((p_r + 1) * 4).toInt = (p_r + 1).toInt * 4 := g5_imul (a := (p_r + 1).toInt) (b := 4) (by rfl) (by decide) (by omega) (by omega)
      refine lv_istore_n (lv' := [(2, .int ((p_r + 1) * 4)), (0, .ref a_t), (1, .int p_r)]) hx hb dX6_remove_17 rfl hl (by decide) rfl (fun ls hl => ?_)
      refine lv_aload_n hx hb dX6_remove_18 rfl (lv_at hl 1 rfl) ?_
      refine va_get (D := G.1) (ci := 6) (v := .ref a_n) (C := RX6) (T := TX6) (N := 4) hx hb hts inG_X6 hown hK hP 1 rfl rfl 2 (by decide) (hts _ fl_X6_21) (fun _ h9 => h9) rfl dX6_remove_19 ?_
      refine lv_iload_n hx hb dX6_remove_22 rfl (lv_at hl 0 rfl) ?_
      refine lv_aload_n hx hb dX6_remove_23 rfl (lv_at hl 1 rfl) ?_
      refine va_get (D := G.1) (ci := 6) (v := .ref a_n) (C := RX6) (T := TX6) (N := 4) hx hb hts inG_X6 hown hK hP 1 rfl rfl 2 (by decide) (hts _ fl_X6_21) (fun _ h9 => h9) rfl dX6_remove_24 ?_
      refine lv_iload_n hx hb dX6_remove_27 rfl (lv_at hl 2 rfl) ?_
      refine lv_aload_n hx hb dX6_remove_28 rfl (lv_at hl 1 rfl) ?_
      refine va_get (D := G.1) (ci := 6) (v := .int 4) (C := RX6) (T := TX6) (N := 4) hx hb hts inG_X6 hown hK hP 1 rfl rfl 1 (by decide) (hts _ fl_X6_18) (fun _ h9 => h9) rfl dX6_remove_29 ?_
      refine lv_imul hx hb dX6_remove_32 ?_
      have t_6 : (p_r * 4).toInt = p_r.toInt * 4 := g5_imul (a := p_r.toInt) (b := 4) (by rfl) (by decide) (by omega) (by omega)
      refine lv_aload_n hx hb dX6_remove_33 rfl (lv_at hl 1 rfl) ?_
      refine va_get (D := G.1) (ci := 6) (v := .int e_n) (C := RX6) (T := TX6) (N := 4) hx hb hts inG_X6 hown hK hP 1 rfl rfl 3 (by decide) (hts _ fl_X6_9) (fun _ h9 => h9) rfl dX6_remove_34 ?_
      refine lv_aload_n hx hb dX6_remove_37 rfl (lv_at hl 1 rfl) ?_
      refine va_get (D := G.1) (ci := 6) (v := .int 4) (C := RX6) (T := TX6) (N := 4) hx hb hts inG_X6 hown hK hP 1 rfl rfl 1 (by decide) (hts _ fl_X6_18) (fun _ h9 => h9) rfl dX6_remove_38 ?_
      refine lv_imul hx hb dX6_remove_41 ?_
      have t_7 : (e_n * 4).toInt = e_n.toInt * 4 := g5_imul (a := e_n.toInt) (b := 4) (by rfl) (by decide) (by omega) (by omega)
      refine lv_iload_n hx hb dX6_remove_42 rfl (lv_at hl 0 rfl) ?_
      refine lv_isub hx hb dX6_remove_43 ?_
      have t_8 : ((e_n * 4) - ((p_r + 1) * 4)).toInt = (e_n * 4).toInt - ((p_r + 1) * 4).toInt := g5_isub (a := (e_n * 4).toInt) (b := ((p_r + 1) * 4).toInt) (by rfl) (by rfl) (by omega) (by omega)
      refine va_copyi hx hb (hml.trans hl.1.symm) hown (hts _ ml_X6_37) (hts _ ac_nat) (hts _ ac_st) (hts _ ac_ini) hK hP hD hS 0 0 0 0 rfl rfl rfl rfl rfl (sp := ((p_r + 1) * 4)) (dp := (p_r * 4)) (n := ((e_n * 4) - ((p_r + 1) * 4))) (g_nlt0 (by omega)) (g_nlt0 (by omega)) (g_nlt0 (by omega)) (by have z9 := g5_clamp ((p_r + 1) * 4); have z10 := g5_clamp ((e_n * 4) - ((p_r + 1) * 4)); omega) (by have z11 := g5_clamp (p_r * 4); have z12 := g5_clamp ((e_n * 4) - ((p_r + 1) * 4)); omega) (fun _ _ => rfl) (Nat.le_of_ble_eq_true rfl) (by decide) dX6_remove_44 (fun H locs hP hD hS => ?_)
      refine g5_rs [(a_n, (arI G 40 (va_cpy f_n f_n ((p_r + 1) * 4).toNatClampNeg (p_r * 4).toNatClampNeg ((e_n * 4) - ((p_r + 1) * 4)).toNatClampNeg))), (a_t, (oc6 10 4 a_n e_n))] hP hD (fun hP hD => ?_)
      refine lv_aload_n hx hb dX6_remove_47 rfl (lv_at hl 1 rfl) ?_
      refine lv_dup hx hb dX6_remove_48 rfl ?_
      refine va_get (D := G.1) (ci := 6) (v := .int e_n) (C := RX6) (T := TX6) (N := 4) hx hb hts inG_X6 hown hK hP 1 rfl rfl 3 (by decide) (hts _ fl_X6_9) (fun _ h9 => h9) rfl dX6_remove_49 ?_
      refine lv_iconst (v := 1) hx hb dX6_remove_52 (by decide) ?_
      refine lv_isub hx hb dX6_remove_53 ?_
      have t_13 : (e_n - 1).toInt = e_n.toInt - 1 := g5_isub (a := e_n.toInt) (b := 1) (by rfl) (by decide) (by omega) (by omega)
      refine va_put (D := G.1) (ci := 6) (v := .int (e_n - 1)) (ty := .int) (C := RX6) (T := TX6) (N := 4) hx hb hts inG_X6 tyX6 tyX6_ok nmX6 hown hK hP hD hS 1 rfl rfl 3 (by decide) (hts _ fl_X6_9) (fun _ h9 => h9) rfl (by decide +kernel) rfl rfl (Nat.le_of_ble_eq_true rfl) dX6_remove_54 (fun H locs hP hD hS => ?_)
      refine g5_rs [(a_n, (arI G 40 (va_cpy f_n f_n ((p_r + 1) * 4).toNatClampNeg (p_r * 4).toNatClampNeg ((e_n * 4) - ((p_r + 1) * 4)).toNatClampNeg))), (a_t, (oc6 10 4 a_n (e_n - 1)))] hP hD (fun hP hD => ?_)
      exact W.vret hx hb hr (fun t ht hW => ⟨⟨[(a_t, (oc6 10 4 a_n (e_n - 1))), (a_n, (arI G 40 (va_cpy f_n f_n ((p_r + 1) * 4).toNatClampNeg (p_r * 4).toNatClampNeg ((e_n * 4) - ((p_r + 1) * 4)).toNatClampNeg)))], rfl, Or.inr (⟨(va_cpy f_n f_n ((p_r + 1) * 4).toNatClampNeg (p_r * 4).toNatClampNeg ((e_n * 4) - ((p_r + 1) * 4)).toNatClampNeg), by omega, by omega, qt_rem (by omega) (by decide) (by omega) (by omega) (by omega) (by omega) (by omega) (by omega), rfl⟩), by rw [ht]; exact hP.sub [1, 0] rfl, hD.sub [1, 0] (by decide) rfl⟩, hS.F ht⟩) hS.2.2 dX6_remove_57
    ·
      exact absurd c_3 (by decide)
  ·
    have i_2 : p_r.toInt < 0 ∨ e_n.toInt ≤ p_r.toInt := i_2
    obtain ⟨hP, hD⟩ := va_join (wr := [(a_n, (arI G 40 f_n))]) hP hD [0] [1] rfl rfl (by decide) (by decide) hk1 hFc hP1 hD1
    generalize H1 = H at hP hS ⊢
    refine g5_rs [(a_n, (arI G 40 f_n)), (a_t, (oc6 10 4 a_n e_n))] hP hD (fun hP hD => ?_)
    refine lv_if_ne (tgt := 9) hx hb dX6_remove_5 (by decide) (fun c_14 => ?_) (fun c_14 => ?_)
    ·
      exact absurd c_14 (by decide)
    ·
      exact W.vret hx hb hr (fun t ht hW => ⟨⟨[(a_t, (oc6 10 4 a_n e_n)), (a_n, (arI G 40 f_n))], rfl, Or.inl (⟨by omega, rfl⟩), by rw [ht]; exact hP.sub [1, 0] rfl, hD.sub [1, 0] (by decide) rfl⟩, hS.F ht⟩) hS.2.2 dX6_remove_8
set_option maxHeartbeats 4000000 in
set_option maxRecDepth 100000 in
theorem t_copyFrom_S (l : Launch) (G : g5_G) (a_t a_n a_o a_on : Nat) (sz : Nat) (e_n : Int32) (e_o : Int32) (f_n : Nat → Int32) (f_o : Nat → Int32) (h_e_n : 0 ≤ e_n.toInt ∧ e_n.toInt ≤ 10) (h_e_o : 0 ≤ e_o.toInt ∧ e_o.toInt ≤ 10) : Met l yX6_copyFrom (wsG yX6_copyFrom cX6_copyFrom 2 none) ({ frames := 1, cells := 0, slots := 0, locals := 60 }) (va_Pc [.ref a_t, .ref a_o] (g5_P G [(a_t, (oc6 10 4 a_n e_n)), (a_n, (arI G 40 f_n)), (a_o, (oc6 10 4 a_on e_o)), (a_on, (arI G 40 f_o))] sz)) (va_Qv (fun (u : va_W) => ((u = [(a_t, (oc6 10 4 a_n e_o)), (a_n, (arI G 40 (va_cpy f_o f_n 0 0 40))), (a_o, (oc6 10 4 a_on e_o)), (a_on, (arI G 40 f_o))]))) (g5_B G (va_A [(a_t, (oc6 10 4 a_n e_n)), (a_n, (arI G 40 f_n)), (a_o, (oc6 10 4 a_on e_o)), (a_on, (arI G 40 f_o))] sz)) (va_A [(a_t, (oc6 10 4 a_n e_n)), (a_n, (arI G 40 f_n)), (a_o, (oc6 10 4 a_on e_o)), (a_on, (arI G 40 f_o))] sz)) 0 0 (va_A [(a_t, (oc6 10 4 a_n e_n)), (a_n, (arI G 40 f_n)), (a_o, (oc6 10 4 a_on e_o)), (a_on, (arI G 40 f_o))] sz) := by
  refine Met.ofW (cc := cX6_copyFrom) (maxL := 2) (ret := none) (by decide) rfl ?_
  intro p e s m args below meth c s₁ B hml hv
  obtain ⟨rfl, hsz, hP, hK, hD0, hN, hT⟩ := hv
  have hx := B.exec
  have hb := B.bytes
  have hr := B.returns
  have hts : ∀ w ∈ tblG, w.before _ s = true := fun w h => atoms_spec (ws := (wsG yX6_copyFrom cX6_copyFrom 2 none)) B.pre w (List.mem_cons_of_mem _ h)
  have hown : s.vm.findClass RX6 = some m.cls := findClass_of_methodNamed B.named
  have hlocks := B.notSynchronized
  subst hsz
  have hD := hD0.self (sz := s.heap.size)
  generalize hAe : va_A [(a_t, (oc6 10 4 a_n e_n)), (a_n, (arI G 40 f_n)), (a_o, (oc6 10 4 a_on e_o)), (a_on, (arI G 40 f_o))] s.heap.size = A at hD hT ⊢
  have hA : ∀ q : Nat, s.heap.size ≤ q → A q := fun q h => by rw [← hAe]; exact Or.inr h
  have hS : va_S A s.heap s.heap [] := va_S.rf
  have hP : va_P G.1 vwCl [(a_t, (oc6 10 4 a_n e_n)), (a_n, (arI G 40 f_n)), (a_o, (oc6 10 4 a_on e_o)), (a_on, (arI G 40 f_o))] s.heap := hP
  have hl := lv_entry ([.ref a_t, .ref a_o]) (n := 2) (Nat.le_of_ble_eq_true rfl)
  rw [lg_entry_eq]
  generalize (lg_sl ([.ref a_t, .ref a_o]) ++ List.replicate (2 - (lg_sl ([.ref a_t, .ref a_o])).length) Slot.unset).toArray = ls at hl ⊢
  have hl : lv_has ls 2 [(0, .ref a_t), (1, .ref a_o)] := hl
  refine lv_aload_n hx hb dX6_copyFrom_0 rfl (lv_at hl 1 rfl) ?_
  refine va_get (D := G.1) (ci := 6) (v := .ref a_on) (C := RX6) (T := TX6) (N := 4) hx hb hts inG_X6 hown hK hP 2 rfl rfl 2 (by decide) (hts _ fl_X6_21) (fun _ h9 => h9) rfl dX6_copyFrom_1 ?_
  refine va_alen hx hb hK hP 3 0 rfl rfl (v := 40) (by show Int32.ofNat 40 = 40; decide) dX6_copyFrom_4 ?_
  refine lv_aload_n hx hb dX6_copyFrom_5 rfl (lv_at hl 0 rfl) ?_
  refine va_get (D := G.1) (ci := 6) (v := .ref a_n) (C := RX6) (T := TX6) (N := 4) hx hb hts inG_X6 hown hK hP 0 rfl rfl 2 (by decide) (hts _ fl_X6_21) (fun _ h9 => h9) rfl dX6_copyFrom_6 ?_
  refine va_alen hx hb hK hP 1 0 rfl rfl (v := 40) (by show Int32.ofNat 40 = 40; decide) dX6_copyFrom_9 ?_
  refine lv_icmp_ne (tgt := 39) hx hb dX6_copyFrom_10 (by decide) (fun c_1 => ?_) (fun c_1 => ?_)
  ·
    exact absurd c_1 (by decide)
  ·
    refine lv_aload_n hx hb dX6_copyFrom_13 rfl (lv_at hl 1 rfl) ?_
    refine va_get (D := G.1) (ci := 6) (v := .ref a_on) (C := RX6) (T := TX6) (N := 4) hx hb hts inG_X6 hown hK hP 2 rfl rfl 2 (by decide) (hts _ fl_X6_21) (fun _ h9 => h9) rfl dX6_copyFrom_14 ?_
    refine lv_iconst (v := 0) hx hb dX6_copyFrom_17 (by decide) ?_
    refine lv_aload_n hx hb dX6_copyFrom_18 rfl (lv_at hl 0 rfl) ?_
    refine va_get (D := G.1) (ci := 6) (v := .ref a_n) (C := RX6) (T := TX6) (N := 4) hx hb hts inG_X6 hown hK hP 0 rfl rfl 2 (by decide) (hts _ fl_X6_21) (fun _ h9 => h9) rfl dX6_copyFrom_19 ?_
    refine lv_iconst (v := 0) hx hb dX6_copyFrom_22 (by decide) ?_
    refine lv_aload_n hx hb dX6_copyFrom_23 rfl (lv_at hl 0 rfl) ?_
    refine va_get (D := G.1) (ci := 6) (v := .ref a_n) (C := RX6) (T := TX6) (N := 4) hx hb hts inG_X6 hown hK hP 0 rfl rfl 2 (by decide) (hts _ fl_X6_21) (fun _ h9 => h9) rfl dX6_copyFrom_24 ?_
    refine va_alen hx hb hK hP 1 0 rfl rfl (v := 40) (by show Int32.ofNat 40 = 40; decide) dX6_copyFrom_27 ?_
    refine va_copyi hx hb (hml.trans hl.1.symm) hown (hts _ ml_X6_37) (hts _ ac_nat) (hts _ ac_st) (hts _ ac_ini) hK hP hD hS 3 1 0 0 rfl rfl rfl rfl rfl (sp := 0) (dp := 0) (n := 40) (by decide) (by decide) (by decide) (by decide) (by decide) (fun _ _ => rfl) (Nat.le_of_ble_eq_true rfl) (by decide) dX6_copyFrom_28 (fun H locs hP hD hS => ?_)
    refine g5_rs [(a_t, (oc6 10 4 a_n e_n)), (a_n, (arI G 40 (va_cpy f_o f_n 0 0 40))), (a_o, (oc6 10 4 a_on e_o)), (a_on, (arI G 40 f_o))] hP hD (fun hP hD => ?_)
    refine lv_aload_n hx hb dX6_copyFrom_31 rfl (lv_at hl 0 rfl) ?_
    refine lv_aload_n hx hb dX6_copyFrom_32 rfl (lv_at hl 1 rfl) ?_
    refine va_get (D := G.1) (ci := 6) (v := .int e_o) (C := RX6) (T := TX6) (N := 4) hx hb hts inG_X6 hown hK hP 2 rfl rfl 3 (by decide) (hts _ fl_X6_9) (fun _ h9 => h9) rfl dX6_copyFrom_33 ?_
    refine va_put (D := G.1) (ci := 6) (v := .int e_o) (ty := .int) (C := RX6) (T := TX6) (N := 4) hx hb hts inG_X6 tyX6 tyX6_ok nmX6 hown hK hP hD hS 0 rfl rfl 3 (by decide) (hts _ fl_X6_9) (fun _ h9 => h9) rfl (by decide +kernel) rfl rfl (Nat.le_of_ble_eq_true rfl) dX6_copyFrom_36 (fun H locs hP hD hS => ?_)
    refine g5_rs [(a_t, (oc6 10 4 a_n e_o)), (a_n, (arI G 40 (va_cpy f_o f_n 0 0 40))), (a_o, (oc6 10 4 a_on e_o)), (a_on, (arI G 40 f_o))] hP hD (fun hP hD => ?_)
    exact W.vret hx hb hr (fun t ht hW => ⟨⟨[(a_t, (oc6 10 4 a_n e_o)), (a_n, (arI G 40 (va_cpy f_o f_n 0 0 40))), (a_o, (oc6 10 4 a_on e_o)), (a_on, (arI G 40 f_o))], rfl, rfl, by rw [ht]; exact hP.sub [0, 1, 2, 3] rfl, hD.sub [0, 1, 2, 3] (by decide) rfl⟩, hS.F ht⟩) hS.2.2 dX6_copyFrom_39
set_option maxHeartbeats 4000000 in
set_option maxRecDepth 100000 in
theorem t_copyFrom_P (l : Launch) (G : g5_G) (a_t a_n a_o a_on : Nat) (sz : Nat) (e_n : Int32) (e_o : Int32) (f_n : Nat → Int32) (f_o : Nat → Int32) (h_e_n : 0 ≤ e_n.toInt ∧ e_n.toInt ≤ 8) (h_e_o : 0 ≤ e_o.toInt ∧ e_o.toInt ≤ 8) : Met l yX6_copyFrom (wsG yX6_copyFrom cX6_copyFrom 2 none) ({ frames := 1, cells := 0, slots := 0, locals := 60 }) (va_Pc [.ref a_t, .ref a_o] (g5_P G [(a_t, (oc6 8 5 a_n e_n)), (a_n, (arI G 40 f_n)), (a_o, (oc6 8 5 a_on e_o)), (a_on, (arI G 40 f_o))] sz)) (va_Qv (fun (u : va_W) => ((u = [(a_t, (oc6 8 5 a_n e_o)), (a_n, (arI G 40 (va_cpy f_o f_n 0 0 40))), (a_o, (oc6 8 5 a_on e_o)), (a_on, (arI G 40 f_o))]))) (g5_B G (va_A [(a_t, (oc6 8 5 a_n e_n)), (a_n, (arI G 40 f_n)), (a_o, (oc6 8 5 a_on e_o)), (a_on, (arI G 40 f_o))] sz)) (va_A [(a_t, (oc6 8 5 a_n e_n)), (a_n, (arI G 40 f_n)), (a_o, (oc6 8 5 a_on e_o)), (a_on, (arI G 40 f_o))] sz)) 0 0 (va_A [(a_t, (oc6 8 5 a_n e_n)), (a_n, (arI G 40 f_n)), (a_o, (oc6 8 5 a_on e_o)), (a_on, (arI G 40 f_o))] sz) := by
  refine Met.ofW (cc := cX6_copyFrom) (maxL := 2) (ret := none) (by decide) rfl ?_
  intro p e s m args below meth c s₁ B hml hv
  obtain ⟨rfl, hsz, hP, hK, hD0, hN, hT⟩ := hv
  have hx := B.exec
  have hb := B.bytes
  have hr := B.returns
  have hts : ∀ w ∈ tblG, w.before _ s = true := fun w h => atoms_spec (ws := (wsG yX6_copyFrom cX6_copyFrom 2 none)) B.pre w (List.mem_cons_of_mem _ h)
  have hown : s.vm.findClass RX6 = some m.cls := findClass_of_methodNamed B.named
  have hlocks := B.notSynchronized
  subst hsz
  have hD := hD0.self (sz := s.heap.size)
  generalize hAe : va_A [(a_t, (oc6 8 5 a_n e_n)), (a_n, (arI G 40 f_n)), (a_o, (oc6 8 5 a_on e_o)), (a_on, (arI G 40 f_o))] s.heap.size = A at hD hT ⊢
  have hA : ∀ q : Nat, s.heap.size ≤ q → A q := fun q h => by rw [← hAe]; exact Or.inr h
  have hS : va_S A s.heap s.heap [] := va_S.rf
  have hP : va_P G.1 vwCl [(a_t, (oc6 8 5 a_n e_n)), (a_n, (arI G 40 f_n)), (a_o, (oc6 8 5 a_on e_o)), (a_on, (arI G 40 f_o))] s.heap := hP
  have hl := lv_entry ([.ref a_t, .ref a_o]) (n := 2) (Nat.le_of_ble_eq_true rfl)
  rw [lg_entry_eq]
  generalize (lg_sl ([.ref a_t, .ref a_o]) ++ List.replicate (2 - (lg_sl ([.ref a_t, .ref a_o])).length) Slot.unset).toArray = ls at hl ⊢
  have hl : lv_has ls 2 [(0, .ref a_t), (1, .ref a_o)] := hl
  refine lv_aload_n hx hb dX6_copyFrom_0 rfl (lv_at hl 1 rfl) ?_
  refine va_get (D := G.1) (ci := 6) (v := .ref a_on) (C := RX6) (T := TX6) (N := 4) hx hb hts inG_X6 hown hK hP 2 rfl rfl 2 (by decide) (hts _ fl_X6_21) (fun _ h9 => h9) rfl dX6_copyFrom_1 ?_
  refine va_alen hx hb hK hP 3 0 rfl rfl (v := 40) (by show Int32.ofNat 40 = 40; decide) dX6_copyFrom_4 ?_
  refine lv_aload_n hx hb dX6_copyFrom_5 rfl (lv_at hl 0 rfl) ?_
  refine va_get (D := G.1) (ci := 6) (v := .ref a_n) (C := RX6) (T := TX6) (N := 4) hx hb hts inG_X6 hown hK hP 0 rfl rfl 2 (by decide) (hts _ fl_X6_21) (fun _ h9 => h9) rfl dX6_copyFrom_6 ?_
  refine va_alen hx hb hK hP 1 0 rfl rfl (v := 40) (by show Int32.ofNat 40 = 40; decide) dX6_copyFrom_9 ?_
  refine lv_icmp_ne (tgt := 39) hx hb dX6_copyFrom_10 (by decide) (fun c_1 => ?_) (fun c_1 => ?_)
  ·
    exact absurd c_1 (by decide)
  ·
    refine lv_aload_n hx hb dX6_copyFrom_13 rfl (lv_at hl 1 rfl) ?_
    refine va_get (D := G.1) (ci := 6) (v := .ref a_on) (C := RX6) (T := TX6) (N := 4) hx hb hts inG_X6 hown hK hP 2 rfl rfl 2 (by decide) (hts _ fl_X6_21) (fun _ h9 => h9) rfl dX6_copyFrom_14 ?_
    refine lv_iconst (v := 0) hx hb dX6_copyFrom_17 (by decide) ?_
    refine lv_aload_n hx hb dX6_copyFrom_18 rfl (lv_at hl 0 rfl) ?_
    refine va_get (D := G.1) (ci := 6) (v := .ref a_n) (C := RX6) (T := TX6) (N := 4) hx hb hts inG_X6 hown hK hP 0 rfl rfl 2 (by decide) (hts _ fl_X6_21) (fun _ h9 => h9) rfl dX6_copyFrom_19 ?_
    refine lv_iconst (v := 0) hx hb dX6_copyFrom_22 (by decide) ?_
    refine lv_aload_n hx hb dX6_copyFrom_23 rfl (lv_at hl 0 rfl) ?_
    refine va_get (D := G.1) (ci := 6) (v := .ref a_n) (C := RX6) (T := TX6) (N := 4) hx hb hts inG_X6 hown hK hP 0 rfl rfl 2 (by decide) (hts _ fl_X6_21) (fun _ h9 => h9) rfl dX6_copyFrom_24 ?_
    refine va_alen hx hb hK hP 1 0 rfl rfl (v := 40) (by show Int32.ofNat 40 = 40; decide) dX6_copyFrom_27 ?_
    refine va_copyi hx hb (hml.trans hl.1.symm) hown (hts _ ml_X6_37) (hts _ ac_nat) (hts _ ac_st) (hts _ ac_ini) hK hP hD hS 3 1 0 0 rfl rfl rfl rfl rfl (sp := 0) (dp := 0) (n := 40) (by decide) (by decide) (by decide) (by decide) (by decide) (fun _ _ => rfl) (Nat.le_of_ble_eq_true rfl) (by decide) dX6_copyFrom_28 (fun H locs hP hD hS => ?_)
    refine g5_rs [(a_t, (oc6 8 5 a_n e_n)), (a_n, (arI G 40 (va_cpy f_o f_n 0 0 40))), (a_o, (oc6 8 5 a_on e_o)), (a_on, (arI G 40 f_o))] hP hD (fun hP hD => ?_)
    refine lv_aload_n hx hb dX6_copyFrom_31 rfl (lv_at hl 0 rfl) ?_
    refine lv_aload_n hx hb dX6_copyFrom_32 rfl (lv_at hl 1 rfl) ?_
    refine va_get (D := G.1) (ci := 6) (v := .int e_o) (C := RX6) (T := TX6) (N := 4) hx hb hts inG_X6 hown hK hP 2 rfl rfl 3 (by decide) (hts _ fl_X6_9) (fun _ h9 => h9) rfl dX6_copyFrom_33 ?_
    refine va_put (D := G.1) (ci := 6) (v := .int e_o) (ty := .int) (C := RX6) (T := TX6) (N := 4) hx hb hts inG_X6 tyX6 tyX6_ok nmX6 hown hK hP hD hS 0 rfl rfl 3 (by decide) (hts _ fl_X6_9) (fun _ h9 => h9) rfl (by decide +kernel) rfl rfl (Nat.le_of_ble_eq_true rfl) dX6_copyFrom_36 (fun H locs hP hD hS => ?_)
    refine g5_rs [(a_t, (oc6 8 5 a_n e_o)), (a_n, (arI G 40 (va_cpy f_o f_n 0 0 40))), (a_o, (oc6 8 5 a_on e_o)), (a_on, (arI G 40 f_o))] hP hD (fun hP hD => ?_)
    exact W.vret hx hb hr (fun t ht hW => ⟨⟨[(a_t, (oc6 8 5 a_n e_o)), (a_n, (arI G 40 (va_cpy f_o f_n 0 0 40))), (a_o, (oc6 8 5 a_on e_o)), (a_on, (arI G 40 f_o))], rfl, rfl, by rw [ht]; exact hP.sub [0, 1, 2, 3] rfl, hD.sub [0, 1, 2, 3] (by decide) rfl⟩, hS.F ht⟩) hS.2.2 dX6_copyFrom_39
set_option maxHeartbeats 4000000 in
set_option maxRecDepth 100000 in
theorem t_copyFrom_W (l : Launch) (G : g5_G) (a_t a_n a_o a_on : Nat) (sz : Nat) (e_n : Int32) (e_o : Int32) (f_n : Nat → Int32) (f_o : Nat → Int32) (h_e_n : 0 ≤ e_n.toInt ∧ e_n.toInt ≤ 6) (h_e_o : 0 ≤ e_o.toInt ∧ e_o.toInt ≤ 6) : Met l yX6_copyFrom (wsG yX6_copyFrom cX6_copyFrom 2 none) ({ frames := 1, cells := 0, slots := 0, locals := 60 }) (va_Pc [.ref a_t, .ref a_o] (g5_P G [(a_t, (oc6 6 6 a_n e_n)), (a_n, (arI G 36 f_n)), (a_o, (oc6 6 6 a_on e_o)), (a_on, (arI G 36 f_o))] sz)) (va_Qv (fun (u : va_W) => ((u = [(a_t, (oc6 6 6 a_n e_o)), (a_n, (arI G 36 (va_cpy f_o f_n 0 0 36))), (a_o, (oc6 6 6 a_on e_o)), (a_on, (arI G 36 f_o))]))) (g5_B G (va_A [(a_t, (oc6 6 6 a_n e_n)), (a_n, (arI G 36 f_n)), (a_o, (oc6 6 6 a_on e_o)), (a_on, (arI G 36 f_o))] sz)) (va_A [(a_t, (oc6 6 6 a_n e_n)), (a_n, (arI G 36 f_n)), (a_o, (oc6 6 6 a_on e_o)), (a_on, (arI G 36 f_o))] sz)) 0 0 (va_A [(a_t, (oc6 6 6 a_n e_n)), (a_n, (arI G 36 f_n)), (a_o, (oc6 6 6 a_on e_o)), (a_on, (arI G 36 f_o))] sz) := by
  refine Met.ofW (cc := cX6_copyFrom) (maxL := 2) (ret := none) (by decide) rfl ?_
  intro p e s m args below meth c s₁ B hml hv
  obtain ⟨rfl, hsz, hP, hK, hD0, hN, hT⟩ := hv
  have hx := B.exec
  have hb := B.bytes
  have hr := B.returns
  have hts : ∀ w ∈ tblG, w.before _ s = true := fun w h => atoms_spec (ws := (wsG yX6_copyFrom cX6_copyFrom 2 none)) B.pre w (List.mem_cons_of_mem _ h)
  have hown : s.vm.findClass RX6 = some m.cls := findClass_of_methodNamed B.named
  have hlocks := B.notSynchronized
  subst hsz
  have hD := hD0.self (sz := s.heap.size)
  generalize hAe : va_A [(a_t, (oc6 6 6 a_n e_n)), (a_n, (arI G 36 f_n)), (a_o, (oc6 6 6 a_on e_o)), (a_on, (arI G 36 f_o))] s.heap.size = A at hD hT ⊢
  have hA : ∀ q : Nat, s.heap.size ≤ q → A q := fun q h => by rw [← hAe]; exact Or.inr h
  have hS : va_S A s.heap s.heap [] := va_S.rf
  have hP : va_P G.1 vwCl [(a_t, (oc6 6 6 a_n e_n)), (a_n, (arI G 36 f_n)), (a_o, (oc6 6 6 a_on e_o)), (a_on, (arI G 36 f_o))] s.heap := hP
  have hl := lv_entry ([.ref a_t, .ref a_o]) (n := 2) (Nat.le_of_ble_eq_true rfl)
  rw [lg_entry_eq]
  generalize (lg_sl ([.ref a_t, .ref a_o]) ++ List.replicate (2 - (lg_sl ([.ref a_t, .ref a_o])).length) Slot.unset).toArray = ls at hl ⊢
  have hl : lv_has ls 2 [(0, .ref a_t), (1, .ref a_o)] := hl
  refine lv_aload_n hx hb dX6_copyFrom_0 rfl (lv_at hl 1 rfl) ?_
  refine va_get (D := G.1) (ci := 6) (v := .ref a_on) (C := RX6) (T := TX6) (N := 4) hx hb hts inG_X6 hown hK hP 2 rfl rfl 2 (by decide) (hts _ fl_X6_21) (fun _ h9 => h9) rfl dX6_copyFrom_1 ?_
  refine va_alen hx hb hK hP 3 0 rfl rfl (v := 36) (by show Int32.ofNat 36 = 36; decide) dX6_copyFrom_4 ?_
  refine lv_aload_n hx hb dX6_copyFrom_5 rfl (lv_at hl 0 rfl) ?_
  refine va_get (D := G.1) (ci := 6) (v := .ref a_n) (C := RX6) (T := TX6) (N := 4) hx hb hts inG_X6 hown hK hP 0 rfl rfl 2 (by decide) (hts _ fl_X6_21) (fun _ h9 => h9) rfl dX6_copyFrom_6 ?_
  refine va_alen hx hb hK hP 1 0 rfl rfl (v := 36) (by show Int32.ofNat 36 = 36; decide) dX6_copyFrom_9 ?_
  refine lv_icmp_ne (tgt := 39) hx hb dX6_copyFrom_10 (by decide) (fun c_1 => ?_) (fun c_1 => ?_)
  ·
    exact absurd c_1 (by decide)
  ·
    refine lv_aload_n hx hb dX6_copyFrom_13 rfl (lv_at hl 1 rfl) ?_
    refine va_get (D := G.1) (ci := 6) (v := .ref a_on) (C := RX6) (T := TX6) (N := 4) hx hb hts inG_X6 hown hK hP 2 rfl rfl 2 (by decide) (hts _ fl_X6_21) (fun _ h9 => h9) rfl dX6_copyFrom_14 ?_
    refine lv_iconst (v := 0) hx hb dX6_copyFrom_17 (by decide) ?_
    refine lv_aload_n hx hb dX6_copyFrom_18 rfl (lv_at hl 0 rfl) ?_
    refine va_get (D := G.1) (ci := 6) (v := .ref a_n) (C := RX6) (T := TX6) (N := 4) hx hb hts inG_X6 hown hK hP 0 rfl rfl 2 (by decide) (hts _ fl_X6_21) (fun _ h9 => h9) rfl dX6_copyFrom_19 ?_
    refine lv_iconst (v := 0) hx hb dX6_copyFrom_22 (by decide) ?_
    refine lv_aload_n hx hb dX6_copyFrom_23 rfl (lv_at hl 0 rfl) ?_
    refine va_get (D := G.1) (ci := 6) (v := .ref a_n) (C := RX6) (T := TX6) (N := 4) hx hb hts inG_X6 hown hK hP 0 rfl rfl 2 (by decide) (hts _ fl_X6_21) (fun _ h9 => h9) rfl dX6_copyFrom_24 ?_
    refine va_alen hx hb hK hP 1 0 rfl rfl (v := 36) (by show Int32.ofNat 36 = 36; decide) dX6_copyFrom_27 ?_
    refine va_copyi hx hb (hml.trans hl.1.symm) hown (hts _ ml_X6_37) (hts _ ac_nat) (hts _ ac_st) (hts _ ac_ini) hK hP hD hS 3 1 0 0 rfl rfl rfl rfl rfl (sp := 0) (dp := 0) (n := 36) (by decide) (by decide) (by decide) (by decide) (by decide) (fun _ _ => rfl) (Nat.le_of_ble_eq_true rfl) (by decide) dX6_copyFrom_28 (fun H locs hP hD hS => ?_)
    refine g5_rs [(a_t, (oc6 6 6 a_n e_n)), (a_n, (arI G 36 (va_cpy f_o f_n 0 0 36))), (a_o, (oc6 6 6 a_on e_o)), (a_on, (arI G 36 f_o))] hP hD (fun hP hD => ?_)
    refine lv_aload_n hx hb dX6_copyFrom_31 rfl (lv_at hl 0 rfl) ?_
    refine lv_aload_n hx hb dX6_copyFrom_32 rfl (lv_at hl 1 rfl) ?_
    refine va_get (D := G.1) (ci := 6) (v := .int e_o) (C := RX6) (T := TX6) (N := 4) hx hb hts inG_X6 hown hK hP 2 rfl rfl 3 (by decide) (hts _ fl_X6_9) (fun _ h9 => h9) rfl dX6_copyFrom_33 ?_
    refine va_put (D := G.1) (ci := 6) (v := .int e_o) (ty := .int) (C := RX6) (T := TX6) (N := 4) hx hb hts inG_X6 tyX6 tyX6_ok nmX6 hown hK hP hD hS 0 rfl rfl 3 (by decide) (hts _ fl_X6_9) (fun _ h9 => h9) rfl (by decide +kernel) rfl rfl (Nat.le_of_ble_eq_true rfl) dX6_copyFrom_36 (fun H locs hP hD hS => ?_)
    refine g5_rs [(a_t, (oc6 6 6 a_n e_o)), (a_n, (arI G 36 (va_cpy f_o f_n 0 0 36))), (a_o, (oc6 6 6 a_on e_o)), (a_on, (arI G 36 f_o))] hP hD (fun hP hD => ?_)
    exact W.vret hx hb hr (fun t ht hW => ⟨⟨[(a_t, (oc6 6 6 a_n e_o)), (a_n, (arI G 36 (va_cpy f_o f_n 0 0 36))), (a_o, (oc6 6 6 a_on e_o)), (a_on, (arI G 36 f_o))], rfl, rfl, by rw [ht]; exact hP.sub [0, 1, 2, 3] rfl, hD.sub [0, 1, 2, 3] (by decide) rfl⟩, hS.F ht⟩) hS.2.2 dX6_copyFrom_39
