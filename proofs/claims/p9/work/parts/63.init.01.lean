set_option maxHeartbeats 4000000 in
set_option maxRecDepth 100000 in
theorem kX7_init (l : Launch) (G : g5_G) (a0 a1 a2 : Nat) (sz : Nat) : Met l yX7_init (wsG yX7_init cX7_init 3 none) ({ frames := 1, cells := 7, slots := 7320, locals := 12 }) (va_Pc [.ref a0, .ref a1, .ref a2] (g5_P G [(a0, .inr (7, [.null, .null, .null, .null, .int 0, .null, .null, .null, .null, .null]))] sz)) (va_Qv (fun (u : va_W) => (∃ (q1 : Nat) (q2 : Nat) (q3 : Nat) (q4 : Nat) (q5 : Nat) (q6 : Nat) (q7 : Nat), (u = [(a0, (oc7 a1 a2 q1 q2 0 q3 q4 q5 q6 q7)), (q1, (arJ G 24 (fun _ => 0))), (q2, (arI G 1536 (fun _ => 0))), (q3, (arJ G 2048 (fun _ => 0))), (q4, (arJ G 2048 (fun _ => 0))), (q5, (arI G 1536 (fun _ => 0))), (q6, (arI G 64 (fun _ => 0))), (q7, (arI G 64 (fun _ => 0)))]))) (g5_B G (va_A [(a0, .inr (7, [.null, .null, .null, .null, .int 0, .null, .null, .null, .null, .null]))] sz)) (va_A [(a0, .inr (7, [.null, .null, .null, .null, .int 0, .null, .null, .null, .null, .null]))] sz)) 7 7320 (va_A [(a0, .inr (7, [.null, .null, .null, .null, .int 0, .null, .null, .null, .null, .null]))] sz) := by
  refine Met.ofW (cc := cX7_init) (maxL := 3) (ret := none) (by decide) rfl ?_
  intro p e s m args below meth c s₁ B hml hv
  obtain ⟨rfl, hsz, hP, hK, hD0, hN, hT⟩ := hv
  have hx := B.exec
  have hb := B.bytes
  have hr := B.returns
  have hts : ∀ w ∈ tblG, w.before _ s = true := fun w h => atoms_spec (ws := (wsG yX7_init cX7_init 3 none)) B.pre w (List.mem_cons_of_mem _ h)
  have hown : s.vm.findClass RX7 = some m.cls := findClass_of_methodNamed B.named
  have hlocks := B.notSynchronized
  have hin : meth.name = "<init>" := (name_of_methodNamed B.named B.method).1
  subst hsz
  have hD := hD0.self (sz := s.heap.size)
  generalize hAe : va_A [(a0, .inr (7, [.null, .null, .null, .null, .int 0, .null, .null, .null, .null, .null]))] s.heap.size = A at hD hT ⊢
  have hA : ∀ q : Nat, s.heap.size ≤ q → A q := fun q h => by rw [← hAe]; exact Or.inr h
  have hS : va_S A s.heap s.heap [] := va_S.rf
  have hP : va_P G.1 vwCl [(a0, .inr (7, [.null, .null, .null, .null, .int 0, .null, .null, .null, .null, .null]))] s.heap := hP
  have hl := lv_entry ([.ref a0, .ref a1, .ref a2]) (n := 3) (Nat.le_of_ble_eq_true rfl)
  rw [lg_entry_eq]
  generalize (lg_sl ([.ref a0, .ref a1, .ref a2]) ++ List.replicate (3 - (lg_sl ([.ref a0, .ref a1, .ref a2])).length) Slot.unset).toArray = ls at hl ⊢
  have hl : lv_has ls 3 [(0, .ref a0), (1, .ref a1), (2, .ref a2)] := hl
  refine lv_aload_n hx hb dX7_init_0 rfl (lv_at hl 0 rfl) ?_
  refine W.objInit hx hb hown (hts _ oi_X7_3) (hts _ oi_im) (hts _ oi_cd) rfl (by rw [hml]; exact hl.1) rfl dX7_init_1 (Nat.le_of_ble_eq_true rfl) (Nat.le_of_ble_eq_true rfl) ?_
  refine W.eq (g2 := F0 m 4 ls []) rfl ?_
  refine lv_aload_n hx hb dX7_init_4 rfl (lv_at hl 0 rfl) ?_
  refine lv_bipush (v := 24) hx hb dX7_init_5 (by decide) ?_
  refine va_newa (D := G.1) (atype := .long) (ty := .long) hx hb (hts _ acl_J) rfl hK hP hD hS hA (n := 24) (N' := 24) (a0 := (24, .inr (.inl (fun _ => 0)))) (fun _ => rfl) (by decide) (by decide) (by decide) (Nat.le_of_ble_eq_true rfl) (Nat.le_of_ble_eq_true rfl) dX7_init_7 (fun q1 cA H hKn hP hD hS => ?_)
  obtain rfl : cA = G.2 1 := g5_cJ hKn
  refine g5_rs [(a0, .inr (7, [.null, .null, .null, .null, .int 0, .null, .null, .null, .null, .null])), (q1, (arJ G 24 (fun _ => 0)))] hP hD (fun hP hD => ?_)
  refine W.widen (k := 1) (n := 24) (Nat.le_of_ble_eq_true rfl) (Nat.le_of_ble_eq_true rfl) ?_
  refine va_putF (D := G.1) (ci := 7) (v := .ref q1) (ty := .array .long) (C := RX7) (T := TX7) (N := 10) hx hb hts inG_X7 tyX7 tyX7_ok nmX7 hown hK hP hD hS 0 rfl rfl 2 (by decide) (hts _ fl_X7_9) (fun _ h9 => h9) rfl hin rfl (by decide +kernel) rfl rfl (Nat.le_of_ble_eq_true rfl) dX7_init_9 (fun H locs hP hD hS => ?_)
  refine g5_rs [(a0, .inr (7, [.null, .null, .ref q1, .null, .int 0, .null, .null, .null, .null, .null])), (q1, (arJ G 24 (fun _ => 0)))] hP hD (fun hP hD => ?_)
  refine lv_aload_n hx hb dX7_init_12 rfl (lv_at hl 0 rfl) ?_
  refine lv_sipush (v := 1536) hx hb dX7_init_13 (by decide) ?_
  refine va_newa (D := G.1) (atype := .int) (ty := .int) hx hb (hts _ acl_I) rfl hK hP hD hS hA (n := 1536) (N' := 1536) (a0 := (1536, .inl (fun _ => 0))) (fun _ => rfl) (by decide) (by decide) (by decide) (Nat.le_of_ble_eq_true rfl) (Nat.le_of_ble_eq_true rfl) dX7_init_16 (fun q2 cA H hKn hP hD hS => ?_)
  obtain rfl : cA = G.2 0 := g5_cI hKn
  refine g5_rs [(a0, .inr (7, [.null, .null, .ref q1, .null, .int 0, .null, .null, .null, .null, .null])), (q1, (arJ G 24 (fun _ => 0))), (q2, (arI G 1536 (fun _ => 0)))] hP hD (fun hP hD => ?_)
  refine W.widen (k := 2) (n := 1560) (Nat.le_of_ble_eq_true rfl) (Nat.le_of_ble_eq_true rfl) ?_
  refine va_putF (D := G.1) (ci := 7) (v := .ref q2) (ty := .array .int) (C := RX7) (T := TX7) (N := 10) hx hb hts inG_X7 tyX7 tyX7_ok nmX7 hown hK hP hD hS 0 rfl rfl 3 (by decide) (hts _ fl_X7_15) (fun _ h9 => h9) rfl hin rfl (by decide +kernel) rfl rfl (Nat.le_of_ble_eq_true rfl) dX7_init_18 (fun H locs hP hD hS => ?_)
  refine g5_rs [(a0, .inr (7, [.null, .null, .ref q1, .ref q2, .int 0, .null, .null, .null, .null, .null])), (q1, (arJ G 24 (fun _ => 0))), (q2, (arI G 1536 (fun _ => 0)))] hP hD (fun hP hD => ?_)
  refine lv_aload_n hx hb dX7_init_21 rfl (lv_at hl 0 rfl) ?_
  refine lv_sipush (v := 2048) hx hb dX7_init_22 (by decide) ?_
  refine va_newa (D := G.1) (atype := .long) (ty := .long) hx hb (hts _ acl_J) rfl hK hP hD hS hA (n := 2048) (N' := 2048) (a0 := (2048, .inr (.inl (fun _ => 0)))) (fun _ => rfl) (by decide) (by decide) (by decide) (Nat.le_of_ble_eq_true rfl) (Nat.le_of_ble_eq_true rfl) dX7_init_25 (fun q3 cA H hKn hP hD hS => ?_)
  obtain rfl : cA = G.2 1 := g5_cJ hKn
  refine g5_rs [(a0, .inr (7, [.null, .null, .ref q1, .ref q2, .int 0, .null, .null, .null, .null, .null])), (q1, (arJ G 24 (fun _ => 0))), (q2, (arI G 1536 (fun _ => 0))), (q3, (arJ G 2048 (fun _ => 0)))] hP hD (fun hP hD => ?_)
  refine W.widen (k := 3) (n := 3608) (Nat.le_of_ble_eq_true rfl) (Nat.le_of_ble_eq_true rfl) ?_
  refine va_put (D := G.1) (ci := 7) (v := .ref q3) (ty := .array .long) (C := RX7) (T := TX7) (N := 10) hx hb hts inG_X7 tyX7 tyX7_ok nmX7 hown hK hP hD hS 0 rfl rfl 5 (by decide) (hts _ fl_X7_19) (fun _ h9 => h9) rfl (by decide +kernel) rfl rfl (Nat.le_of_ble_eq_true rfl) dX7_init_27 (fun H locs hP hD hS => ?_)
  refine g5_rs [(a0, .inr (7, [.null, .null, .ref q1, .ref q2, .int 0, .ref q3, .null, .null, .null, .null])), (q1, (arJ G 24 (fun _ => 0))), (q2, (arI G 1536 (fun _ => 0))), (q3, (arJ G 2048 (fun _ => 0)))] hP hD (fun hP hD => ?_)
  refine lv_aload_n hx hb dX7_init_30 rfl (lv_at hl 0 rfl) ?_
  refine lv_sipush (v := 2048) hx hb dX7_init_31 (by decide) ?_
  refine va_newa (D := G.1) (atype := .long) (ty := .long) hx hb (hts _ acl_J) rfl hK hP hD hS hA (n := 2048) (N' := 2048) (a0 := (2048, .inr (.inl (fun _ => 0)))) (fun _ => rfl) (by decide) (by decide) (by decide) (Nat.le_of_ble_eq_true rfl) (Nat.le_of_ble_eq_true rfl) dX7_init_34 (fun q4 cA H hKn hP hD hS => ?_)
  obtain rfl : cA = G.2 1 := g5_cJ hKn
  refine g5_rs [(a0, .inr (7, [.null, .null, .ref q1, .ref q2, .int 0, .ref q3, .null, .null, .null, .null])), (q1, (arJ G 24 (fun _ => 0))), (q2, (arI G 1536 (fun _ => 0))), (q3, (arJ G 2048 (fun _ => 0))), (q4, (arJ G 2048 (fun _ => 0)))] hP hD (fun hP hD => ?_)
  refine W.widen (k := 4) (n := 5656) (Nat.le_of_ble_eq_true rfl) (Nat.le_of_ble_eq_true rfl) ?_
  refine va_put (D := G.1) (ci := 7) (v := .ref q4) (ty := .array .long) (C := RX7) (T := TX7) (N := 10) hx hb hts inG_X7 tyX7 tyX7_ok nmX7 hown hK hP hD hS 0 rfl rfl 6 (by decide) (hts _ fl_X7_22) (fun _ h9 => h9) rfl (by decide +kernel) rfl rfl (Nat.le_of_ble_eq_true rfl) dX7_init_36 (fun H locs hP hD hS => ?_)
  refine g5_rs [(a0, .inr (7, [.null, .null, .ref q1, .ref q2, .int 0, .ref q3, .ref q4, .null, .null, .null])), (q1, (arJ G 24 (fun _ => 0))), (q2, (arI G 1536 (fun _ => 0))), (q3, (arJ G 2048 (fun _ => 0))), (q4, (arJ G 2048 (fun _ => 0)))] hP hD (fun hP hD => ?_)
  refine lv_aload_n hx hb dX7_init_39 rfl (lv_at hl 0 rfl) ?_
  refine lv_sipush (v := 1536) hx hb dX7_init_40 (by decide) ?_
  refine va_newa (D := G.1) (atype := .int) (ty := .int) hx hb (hts _ acl_I) rfl hK hP hD hS hA (n := 1536) (N' := 1536) (a0 := (1536, .inl (fun _ => 0))) (fun _ => rfl) (by decide) (by decide) (by decide) (Nat.le_of_ble_eq_true rfl) (Nat.le_of_ble_eq_true rfl) dX7_init_43 (fun q5 cA H hKn hP hD hS => ?_)
  obtain rfl : cA = G.2 0 := g5_cI hKn
  refine g5_rs [(a0, .inr (7, [.null, .null, .ref q1, .ref q2, .int 0, .ref q3, .ref q4, .null, .null, .null])), (q1, (arJ G 24 (fun _ => 0))), (q2, (arI G 1536 (fun _ => 0))), (q3, (arJ G 2048 (fun _ => 0))), (q4, (arJ G 2048 (fun _ => 0))), (q5, (arI G 1536 (fun _ => 0)))] hP hD (fun hP hD => ?_)
  refine W.widen (k := 5) (n := 7192) (Nat.le_of_ble_eq_true rfl) (Nat.le_of_ble_eq_true rfl) ?_
  refine va_putF (D := G.1) (ci := 7) (v := .ref q5) (ty := .array .int) (C := RX7) (T := TX7) (N := 10) hx hb hts inG_X7 tyX7 tyX7_ok nmX7 hown hK hP hD hS 0 rfl rfl 7 (by decide) (hts _ fl_X7_25) (fun _ h9 => h9) rfl hin rfl (by decide +kernel) rfl rfl (Nat.le_of_ble_eq_true rfl) dX7_init_45 (fun H locs hP hD hS => ?_)
  refine g5_rs [(a0, .inr (7, [.null, .null, .ref q1, .ref q2, .int 0, .ref q3, .ref q4, .ref q5, .null, .null])), (q1, (arJ G 24 (fun _ => 0))), (q2, (arI G 1536 (fun _ => 0))), (q3, (arJ G 2048 (fun _ => 0))), (q4, (arJ G 2048 (fun _ => 0))), (q5, (arI G 1536 (fun _ => 0)))] hP hD (fun hP hD => ?_)
  refine lv_aload_n hx hb dX7_init_48 rfl (lv_at hl 0 rfl) ?_
  refine lv_bipush (v := 64) hx hb dX7_init_49 (by decide) ?_
  refine va_newa (D := G.1) (atype := .int) (ty := .int) hx hb (hts _ acl_I) rfl hK hP hD hS hA (n := 64) (N' := 64) (a0 := (64, .inl (fun _ => 0))) (fun _ => rfl) (by decide) (by decide) (by decide) (Nat.le_of_ble_eq_true rfl) (Nat.le_of_ble_eq_true rfl) dX7_init_51 (fun q6 cA H hKn hP hD hS => ?_)
  obtain rfl : cA = G.2 0 := g5_cI hKn
  refine g5_rs [(a0, .inr (7, [.null, .null, .ref q1, .ref q2, .int 0, .ref q3, .ref q4, .ref q5, .null, .null])), (q1, (arJ G 24 (fun _ => 0))), (q2, (arI G 1536 (fun _ => 0))), (q3, (arJ G 2048 (fun _ => 0))), (q4, (arJ G 2048 (fun _ => 0))), (q5, (arI G 1536 (fun _ => 0))), (q6, (arI G 64 (fun _ => 0)))] hP hD (fun hP hD => ?_)
  refine W.widen (k := 6) (n := 7256) (Nat.le_of_ble_eq_true rfl) (Nat.le_of_ble_eq_true rfl) ?_
  refine va_putF (D := G.1) (ci := 7) (v := .ref q6) (ty := .array .int) (C := RX7) (T := TX7) (N := 10) hx hb hts inG_X7 tyX7 tyX7_ok nmX7 hown hK hP hD hS 0 rfl rfl 8 (by decide) (hts _ fl_X7_28) (fun _ h9 => h9) rfl hin rfl (by decide +kernel) rfl rfl (Nat.le_of_ble_eq_true rfl) dX7_init_53 (fun H locs hP hD hS => ?_)
  refine g5_rs [(a0, .inr (7, [.null, .null, .ref q1, .ref q2, .int 0, .ref q3, .ref q4, .ref q5, .ref q6, .null])), (q1, (arJ G 24 (fun _ => 0))), (q2, (arI G 1536 (fun _ => 0))), (q3, (arJ G 2048 (fun _ => 0))), (q4, (arJ G 2048 (fun _ => 0))), (q5, (arI G 1536 (fun _ => 0))), (q6, (arI G 64 (fun _ => 0)))] hP hD (fun hP hD => ?_)
  refine lv_aload_n hx hb dX7_init_56 rfl (lv_at hl 0 rfl) ?_
  refine lv_bipush (v := 64) hx hb dX7_init_57 (by decide) ?_
  refine va_newa (D := G.1) (atype := .int) (ty := .int) hx hb (hts _ acl_I) rfl hK hP hD hS hA (n := 64) (N' := 64) (a0 := (64, .inl (fun _ => 0))) (fun _ => rfl) (by decide) (by decide) (by decide) (Nat.le_of_ble_eq_true rfl) (Nat.le_of_ble_eq_true rfl) dX7_init_59 (fun q7 cA H hKn hP hD hS => ?_)
  obtain rfl : cA = G.2 0 := g5_cI hKn
  refine g5_rs [(a0, .inr (7, [.null, .null, .ref q1, .ref q2, .int 0, .ref q3, .ref q4, .ref q5, .ref q6, .null])), (q1, (arJ G 24 (fun _ => 0))), (q2, (arI G 1536 (fun _ => 0))), (q3, (arJ G 2048 (fun _ => 0))), (q4, (arJ G 2048 (fun _ => 0))), (q5, (arI G 1536 (fun _ => 0))), (q6, (arI G 64 (fun _ => 0))), (q7, (arI G 64 (fun _ => 0)))] hP hD (fun hP hD => ?_)
  refine W.widen (k := 7) (n := 7320) (Nat.le_of_ble_eq_true rfl) (Nat.le_of_ble_eq_true rfl) ?_
  refine va_putF (D := G.1) (ci := 7) (v := .ref q7) (ty := .array .int) (C := RX7) (T := TX7) (N := 10) hx hb hts inG_X7 tyX7 tyX7_ok nmX7 hown hK hP hD hS 0 rfl rfl 9 (by decide) (hts _ fl_X7_31) (fun _ h9 => h9) rfl hin rfl (by decide +kernel) rfl rfl (Nat.le_of_ble_eq_true rfl) dX7_init_61 (fun H locs hP hD hS => ?_)
  refine g5_rs [(a0, .inr (7, [.null, .null, .ref q1, .ref q2, .int 0, .ref q3, .ref q4, .ref q5, .ref q6, .ref q7])), (q1, (arJ G 24 (fun _ => 0))), (q2, (arI G 1536 (fun _ => 0))), (q3, (arJ G 2048 (fun _ => 0))), (q4, (arJ G 2048 (fun _ => 0))), (q5, (arI G 1536 (fun _ => 0))), (q6, (arI G 64 (fun _ => 0))), (q7, (arI G 64 (fun _ => 0)))] hP hD (fun hP hD => ?_)
  refine lv_aload_n hx hb dX7_init_64 rfl (lv_at hl 0 rfl) ?_
  refine lv_aload_n hx hb dX7_init_65 rfl (lv_at hl 1 rfl) ?_
  refine va_putF (D := G.1) (ci := 7) (v := .ref a1) (ty := .object "LateGlass$House") (C := RX7) (T := TX7) (N := 10) hx hb hts inG_X7 tyX7 tyX7_ok nmX7 hown hK hP hD hS 0 rfl rfl 0 (by decide) (hts _ fl_X7_34) (fun _ h9 => h9) rfl hin rfl (by decide +kernel) rfl rfl (Nat.le_of_ble_eq_true rfl) dX7_init_66 (fun H locs hP hD hS => ?_)
  refine g5_rs [(a0, .inr (7, [.ref a1, .null, .ref q1, .ref q2, .int 0, .ref q3, .ref q4, .ref q5, .ref q6, .ref q7])), (q1, (arJ G 24 (fun _ => 0))), (q2, (arI G 1536 (fun _ => 0))), (q3, (arJ G 2048 (fun _ => 0))), (q4, (arJ G 2048 (fun _ => 0))), (q5, (arI G 1536 (fun _ => 0))), (q6, (arI G 64 (fun _ => 0))), (q7, (arI G 64 (fun _ => 0)))] hP hD (fun hP hD => ?_)
  refine lv_aload_n hx hb dX7_init_69 rfl (lv_at hl 0 rfl) ?_
  refine lv_aload_n hx hb dX7_init_70 rfl (lv_at hl 2 rfl) ?_
  refine va_putF (D := G.1) (ci := 7) (v := .ref a2) (ty := .object "LateGlass$Look") (C := RX7) (T := TX7) (N := 10) hx hb hts inG_X7 tyX7 tyX7_ok nmX7 hown hK hP hD hS 0 rfl rfl 1 (by decide) (hts _ fl_X7_38) (fun _ h9 => h9) rfl hin rfl (by decide +kernel) rfl rfl (Nat.le_of_ble_eq_true rfl) dX7_init_71 (fun H locs hP hD hS => ?_)
  refine g5_rs [(a0, (oc7 a1 a2 q1 q2 0 q3 q4 q5 q6 q7)), (q1, (arJ G 24 (fun _ => 0))), (q2, (arI G 1536 (fun _ => 0))), (q3, (arJ G 2048 (fun _ => 0))), (q4, (arJ G 2048 (fun _ => 0))), (q5, (arI G 1536 (fun _ => 0))), (q6, (arI G 64 (fun _ => 0))), (q7, (arI G 64 (fun _ => 0)))] hP hD (fun hP hD => ?_)
  exact W.vret hx hb hr (fun t ht hW => ⟨⟨[(a0, (oc7 a1 a2 q1 q2 0 q3 q4 q5 q6 q7)), (q1, (arJ G 24 (fun _ => 0))), (q2, (arI G 1536 (fun _ => 0))), (q3, (arJ G 2048 (fun _ => 0))), (q4, (arJ G 2048 (fun _ => 0))), (q5, (arI G 1536 (fun _ => 0))), (q6, (arI G 64 (fun _ => 0))), (q7, (arI G 64 (fun _ => 0)))], rfl, ⟨q1, q2, q3, q4, q5, q6, q7, rfl⟩, by rw [ht]; exact hP, hD⟩, hS.F ht⟩) hS.2.2 dX7_init_74
theorem cd_X7_init : Cond.code yX7_init cX7_init 3 none ∈ tblG := tg 315 (by decide +kernel) (by decide +kernel)
theorem gW_X7_init : GoodIn tblG (wsG yX7_init cX7_init 3 none) := tgi cd_X7_init
theorem ml_X11_44 : Cond.methodLink RX11 44 yX7_init ∈ tblG := tg 313 (by decide +kernel) (by decide +kernel)
theorem im_X7_init : Cond.instanceMethod yX7_init ∈ tblG := tg 314 (by decide +kernel) (by decide +kernel)
theorem hs_X7_init : yX7_init.cls ≠ "java/lang/invoke/MethodHandle" ∧ yX7_init.cls ≠ "java/lang/invoke/VarHandle" ∧ (parseMethodDescriptor yX7_init.desc).map (fun d => d.parameters.length) = some 2 := by decide +kernel
theorem cl_X11_49 : Cond.classLink RX11 49 RX0 ∈ tblG := tg 349 (by decide +kernel) (by decide +kernel)
theorem oi_X0_3 : Cond.methodLink RX0 3 objectInit ∈ tblG := tg 354 (by decide +kernel) (by decide +kernel)
theorem dgX0_init_0 : ∀ r ∈ ([(0, (.aload_n 0, 1)), (1, (.invokespecial 3, 3)), (4, (.aload_n 0, 1)), (5, (.aload_n 1, 1)), (6, (.putfield 9, 3)), (9, (.aload_n 0, 1)), (10, (.aload_n 2, 1)), (11, (.putfield 15, 3)), (14, (.return_, 1))] : List (Nat × (Instr × Nat))), decode cX0_init r.1 = .ok r.2 := by decide +kernel
theorem dX0_init_0 : decode cX0_init 0 = .ok (.aload_n 0, 1) := dgX0_init_0 (0, (.aload_n 0, 1)) (List.mem_of_getElem? (i := 0) rfl)
theorem dX0_init_1 : decode cX0_init 1 = .ok (.invokespecial 3, 3) := dgX0_init_0 (1, (.invokespecial 3, 3)) (List.mem_of_getElem? (i := 1) rfl)
theorem dX0_init_4 : decode cX0_init 4 = .ok (.aload_n 0, 1) := dgX0_init_0 (4, (.aload_n 0, 1)) (List.mem_of_getElem? (i := 2) rfl)
theorem dX0_init_5 : decode cX0_init 5 = .ok (.aload_n 1, 1) := dgX0_init_0 (5, (.aload_n 1, 1)) (List.mem_of_getElem? (i := 3) rfl)
theorem dX0_init_6 : decode cX0_init 6 = .ok (.putfield 9, 3) := dgX0_init_0 (6, (.putfield 9, 3)) (List.mem_of_getElem? (i := 4) rfl)
theorem dX0_init_9 : decode cX0_init 9 = .ok (.aload_n 0, 1) := dgX0_init_0 (9, (.aload_n 0, 1)) (List.mem_of_getElem? (i := 5) rfl)
theorem dX0_init_10 : decode cX0_init 10 = .ok (.aload_n 2, 1) := dgX0_init_0 (10, (.aload_n 2, 1)) (List.mem_of_getElem? (i := 6) rfl)
theorem dX0_init_11 : decode cX0_init 11 = .ok (.putfield 15, 3) := dgX0_init_0 (11, (.putfield 15, 3)) (List.mem_of_getElem? (i := 7) rfl)
theorem dX0_init_14 : decode cX0_init 14 = .ok (.return_, 1) := dgX0_init_0 (14, (.return_, 1)) (List.mem_of_getElem? (i := 8) rfl)
set_option maxHeartbeats 4000000 in
set_option maxRecDepth 100000 in
theorem kX0_init (l : Launch) (G : g5_G) (a0 a1 a2 : Nat) (sz : Nat) : Met l yX0_init (wsG yX0_init cX0_init 3 none) ({ frames := 1, cells := 0, slots := 0, locals := 12 }) (va_Pc [.ref a0, .ref a1, .ref a2] (g5_P G [(a0, .inr (0, [.null, .null, .int 0, .int 0, .int 0]))] sz)) (va_Qv (fun (u : va_W) => ((u = [(a0, (oc0 a1 a2 0 0 0))]))) (g5_B G (va_A [(a0, .inr (0, [.null, .null, .int 0, .int 0, .int 0]))] sz)) (va_A [(a0, .inr (0, [.null, .null, .int 0, .int 0, .int 0]))] sz)) 0 0 (va_A [(a0, .inr (0, [.null, .null, .int 0, .int 0, .int 0]))] sz) := by
  refine Met.ofW (cc := cX0_init) (maxL := 3) (ret := none) (by decide) rfl ?_
  intro p e s m args below meth c s₁ B hml hv
  obtain ⟨rfl, hsz, hP, hK, hD0, hN, hT⟩ := hv
  have hx := B.exec
  have hb := B.bytes
  have hr := B.returns
  have hts : ∀ w ∈ tblG, w.before _ s = true := fun w h => atoms_spec (ws := (wsG yX0_init cX0_init 3 none)) B.pre w (List.mem_cons_of_mem _ h)
  have hown : s.vm.findClass RX0 = some m.cls := findClass_of_methodNamed B.named
  have hlocks := B.notSynchronized
  have hin : meth.name = "<init>" := (name_of_methodNamed B.named B.method).1
  subst hsz
  have hD := hD0.self (sz := s.heap.size)
  generalize hAe : va_A [(a0, .inr (0, [.null, .null, .int 0, .int 0, .int 0]))] s.heap.size = A at hD hT ⊢
  have hA : ∀ q : Nat, s.heap.size ≤ q → A q := fun q h => by rw [← hAe]; exact Or.inr h
  have hS : va_S A s.heap s.heap [] := va_S.rf
  have hP : va_P G.1 vwCl [(a0, .inr (0, [.null, .null, .int 0, .int 0, .int 0]))] s.heap := hP
  have hl := lv_entry ([.ref a0, .ref a1, .ref a2]) (n := 3) (Nat.le_of_ble_eq_true rfl)
  rw [lg_entry_eq]
  generalize (lg_sl ([.ref a0, .ref a1, .ref a2]) ++ List.replicate (3 - (lg_sl ([.ref a0, .ref a1, .ref a2])).length) Slot.unset).toArray = ls at hl ⊢
  have hl : lv_has ls 3 [(0, .ref a0), (1, .ref a1), (2, .ref a2)] := hl
  refine lv_aload_n hx hb dX0_init_0 rfl (lv_at hl 0 rfl) ?_
  refine W.objInit hx hb hown (hts _ oi_X0_3) (hts _ oi_im) (hts _ oi_cd) rfl (by rw [hml]; exact hl.1) rfl dX0_init_1 (Nat.le_of_ble_eq_true rfl) (Nat.le_of_ble_eq_true rfl) ?_
  refine W.eq (g2 := F0 m 4 ls []) rfl ?_
  refine lv_aload_n hx hb dX0_init_4 rfl (lv_at hl 0 rfl) ?_
  refine lv_aload_n hx hb dX0_init_5 rfl (lv_at hl 1 rfl) ?_
  refine va_putF (D := G.1) (ci := 0) (v := .ref a1) (ty := .object "LateGlass$House") (C := RX0) (T := TX0) (N := 5) hx hb hts inG_X0 tyX0 tyX0_ok nmX0 hown hK hP hD hS 0 rfl rfl 0 (by decide) (hts _ fl_X0_9) (fun _ h9 => h9) rfl hin rfl (by decide +kernel) rfl rfl (Nat.le_of_ble_eq_true rfl) dX0_init_6 (fun H locs hP hD hS => ?_)
  refine g5_rs [(a0, .inr (0, [.ref a1, .null, .int 0, .int 0, .int 0]))] hP hD (fun hP hD => ?_)
  refine lv_aload_n hx hb dX0_init_9 rfl (lv_at hl 0 rfl) ?_
  refine lv_aload_n hx hb dX0_init_10 rfl (lv_at hl 2 rfl) ?_
  refine va_putF (D := G.1) (ci := 0) (v := .ref a2) (ty := .object "LateGlass$Look") (C := RX0) (T := TX0) (N := 5) hx hb hts inG_X0 tyX0 tyX0_ok nmX0 hown hK hP hD hS 0 rfl rfl 1 (by decide) (hts _ fl_X0_15) (fun _ h9 => h9) rfl hin rfl (by decide +kernel) rfl rfl (Nat.le_of_ble_eq_true rfl) dX0_init_11 (fun H locs hP hD hS => ?_)
  refine g5_rs [(a0, (oc0 a1 a2 0 0 0))] hP hD (fun hP hD => ?_)
  exact W.vret hx hb hr (fun t ht hW => ⟨⟨[(a0, (oc0 a1 a2 0 0 0))], rfl, rfl, by rw [ht]; exact hP, hD⟩, hS.F ht⟩) hS.2.2 dX0_init_14
theorem cd_X0_init : Cond.code yX0_init cX0_init 3 none ∈ tblG := tg 353 (by decide +kernel) (by decide +kernel)
theorem gW_X0_init : GoodIn tblG (wsG yX0_init cX0_init 3 none) := tgi cd_X0_init
theorem ml_X11_51 : Cond.methodLink RX11 51 yX0_init ∈ tblG := tg 351 (by decide +kernel) (by decide +kernel)
theorem im_X0_init : Cond.instanceMethod yX0_init ∈ tblG := tg 352 (by decide +kernel) (by decide +kernel)
theorem hs_X0_init : yX0_init.cls ≠ "java/lang/invoke/MethodHandle" ∧ yX0_init.cls ≠ "java/lang/invoke/VarHandle" ∧ (parseMethodDescriptor yX0_init.desc).map (fun d => d.parameters.length) = some 2 := by decide +kernel
theorem cl_X11_56 : Cond.classLink RX11 56 RX9 ∈ tblG := tg 374 (by decide +kernel) (by decide +kernel)
theorem oi_X9_3 : Cond.methodLink RX9 3 objectInit ∈ tblG := tg 379 (by decide +kernel) (by decide +kernel)
theorem dgX9_init_0 : ∀ r ∈ ([(0, (.aload_n 0, 1)), (1, (.invokespecial 3, 3)), (4, (.aload_n 0, 1)), (5, (.bipush 24, 2)), (7, (.newarray .long, 2)), (9, (.putfield 9, 3)), (12, (.aload_n 0, 1)), (13, (.sipush 1536, 3)), (16, (.newarray .int, 2)), (18, (.putfield 15, 3)), (21, (.aload_n 0, 1)), (22, (.aload_n 1, 1)), (23, (.putfield 19, 3)), (26, (.aload_n 0, 1)), (27, (.aload_n 2, 1)), (28, (.putfield 23, 3)), (31, (.return_, 1))] : List (Nat × (Instr × Nat))), decode cX9_init r.1 = .ok r.2 := by decide +kernel
theorem dX9_init_0 : decode cX9_init 0 = .ok (.aload_n 0, 1) := dgX9_init_0 (0, (.aload_n 0, 1)) (List.mem_of_getElem? (i := 0) rfl)
theorem dX9_init_1 : decode cX9_init 1 = .ok (.invokespecial 3, 3) := dgX9_init_0 (1, (.invokespecial 3, 3)) (List.mem_of_getElem? (i := 1) rfl)
theorem dX9_init_4 : decode cX9_init 4 = .ok (.aload_n 0, 1) := dgX9_init_0 (4, (.aload_n 0, 1)) (List.mem_of_getElem? (i := 2) rfl)
theorem dX9_init_5 : decode cX9_init 5 = .ok (.bipush 24, 2) := dgX9_init_0 (5, (.bipush 24, 2)) (List.mem_of_getElem? (i := 3) rfl)
theorem dX9_init_7 : decode cX9_init 7 = .ok (.newarray .long, 2) := dgX9_init_0 (7, (.newarray .long, 2)) (List.mem_of_getElem? (i := 4) rfl)
theorem dX9_init_9 : decode cX9_init 9 = .ok (.putfield 9, 3) := dgX9_init_0 (9, (.putfield 9, 3)) (List.mem_of_getElem? (i := 5) rfl)
theorem dX9_init_12 : decode cX9_init 12 = .ok (.aload_n 0, 1) := dgX9_init_0 (12, (.aload_n 0, 1)) (List.mem_of_getElem? (i := 6) rfl)
theorem dX9_init_13 : decode cX9_init 13 = .ok (.sipush 1536, 3) := dgX9_init_0 (13, (.sipush 1536, 3)) (List.mem_of_getElem? (i := 7) rfl)
theorem dX9_init_16 : decode cX9_init 16 = .ok (.newarray .int, 2) := dgX9_init_0 (16, (.newarray .int, 2)) (List.mem_of_getElem? (i := 8) rfl)
theorem dX9_init_18 : decode cX9_init 18 = .ok (.putfield 15, 3) := dgX9_init_0 (18, (.putfield 15, 3)) (List.mem_of_getElem? (i := 9) rfl)
theorem dX9_init_21 : decode cX9_init 21 = .ok (.aload_n 0, 1) := dgX9_init_0 (21, (.aload_n 0, 1)) (List.mem_of_getElem? (i := 10) rfl)
theorem dX9_init_22 : decode cX9_init 22 = .ok (.aload_n 1, 1) := dgX9_init_0 (22, (.aload_n 1, 1)) (List.mem_of_getElem? (i := 11) rfl)
theorem dX9_init_23 : decode cX9_init 23 = .ok (.putfield 19, 3) := dgX9_init_0 (23, (.putfield 19, 3)) (List.mem_of_getElem? (i := 12) rfl)
theorem dX9_init_26 : decode cX9_init 26 = .ok (.aload_n 0, 1) := dgX9_init_0 (26, (.aload_n 0, 1)) (List.mem_of_getElem? (i := 13) rfl)
theorem dX9_init_27 : decode cX9_init 27 = .ok (.aload_n 2, 1) := dgX9_init_0 (27, (.aload_n 2, 1)) (List.mem_of_getElem? (i := 14) rfl)
theorem dX9_init_28 : decode cX9_init 28 = .ok (.putfield 23, 3) := dgX9_init_0 (28, (.putfield 23, 3)) (List.mem_of_getElem? (i := 15) rfl)
theorem dX9_init_31 : decode cX9_init 31 = .ok (.return_, 1) := dgX9_init_0 (31, (.return_, 1)) (List.mem_of_getElem? (i := 16) rfl)
set_option maxHeartbeats 4000000 in
set_option maxRecDepth 100000 in
theorem kX9_init (l : Launch) (G : g5_G) (a0 a1 a2 : Nat) (sz : Nat) : Met l yX9_init (wsG yX9_init cX9_init 3 none) ({ frames := 1, cells := 2, slots := 1560, locals := 12 }) (va_Pc [.ref a0, .ref a1, .ref a2] (g5_P G [(a0, .inr (9, [.null, .null, .null, .null]))] sz)) (va_Qv (fun (u : va_W) => (∃ (q1 : Nat) (q2 : Nat), (u = [(a0, (oc9 a1 a2 q1 q2)), (q1, (arJ G 24 (fun _ => 0))), (q2, (arI G 1536 (fun _ => 0)))]))) (g5_B G (va_A [(a0, .inr (9, [.null, .null, .null, .null]))] sz)) (va_A [(a0, .inr (9, [.null, .null, .null, .null]))] sz)) 2 1560 (va_A [(a0, .inr (9, [.null, .null, .null, .null]))] sz) := by
  refine Met.ofW (cc := cX9_init) (maxL := 3) (ret := none) (by decide) rfl ?_
  intro p e s m args below meth c s₁ B hml hv
  obtain ⟨rfl, hsz, hP, hK, hD0, hN, hT⟩ := hv
  have hx := B.exec
  have hb := B.bytes
  have hr := B.returns
  have hts : ∀ w ∈ tblG, w.before _ s = true := fun w h => atoms_spec (ws := (wsG yX9_init cX9_init 3 none)) B.pre w (List.mem_cons_of_mem _ h)
  have hown : s.vm.findClass RX9 = some m.cls := findClass_of_methodNamed B.named
  have hlocks := B.notSynchronized
  have hin : meth.name = "<init>" := (name_of_methodNamed B.named B.method).1
  subst hsz
  have hD := hD0.self (sz := s.heap.size)
  generalize hAe : va_A [(a0, .inr (9, [.null, .null, .null, .null]))] s.heap.size = A at hD hT ⊢
  have hA : ∀ q : Nat, s.heap.size ≤ q → A q := fun q h => by rw [← hAe]; exact Or.inr h
  have hS : va_S A s.heap s.heap [] := va_S.rf
  have hP : va_P G.1 vwCl [(a0, .inr (9, [.null, .null, .null, .null]))] s.heap := hP
  have hl := lv_entry ([.ref a0, .ref a1, .ref a2]) (n := 3) (Nat.le_of_ble_eq_true rfl)
  rw [lg_entry_eq]
  generalize (lg_sl ([.ref a0, .ref a1, .ref a2]) ++ List.replicate (3 - (lg_sl ([.ref a0, .ref a1, .ref a2])).length) Slot.unset).toArray = ls at hl ⊢
  have hl : lv_has ls 3 [(0, .ref a0), (1, .ref a1), (2, .ref a2)] := hl
  refine lv_aload_n hx hb dX9_init_0 rfl (lv_at hl 0 rfl) ?_
  refine W.objInit hx hb hown (hts _ oi_X9_3) (hts _ oi_im) (hts _ oi_cd) rfl (by rw [hml]; exact hl.1) rfl dX9_init_1 (Nat.le_of_ble_eq_true rfl) (Nat.le_of_ble_eq_true rfl) ?_
  refine W.eq (g2 := F0 m 4 ls []) rfl ?_
  refine lv_aload_n hx hb dX9_init_4 rfl (lv_at hl 0 rfl) ?_
  refine lv_bipush (v := 24) hx hb dX9_init_5 (by decide) ?_
  refine va_newa (D := G.1) (atype := .long) (ty := .long) hx hb (hts _ acl_J) rfl hK hP hD hS hA (n := 24) (N' := 24) (a0 := (24, .inr (.inl (fun _ => 0)))) (fun _ => rfl) (by decide) (by decide) (by decide) (Nat.le_of_ble_eq_true rfl) (Nat.le_of_ble_eq_true rfl) dX9_init_7 (fun q1 cA H hKn hP hD hS => ?_)
  obtain rfl : cA = G.2 1 := g5_cJ hKn
  refine g5_rs [(a0, .inr (9, [.null, .null, .null, .null])), (q1, (arJ G 24 (fun _ => 0)))] hP hD (fun hP hD => ?_)
  refine W.widen (k := 1) (n := 24) (Nat.le_of_ble_eq_true rfl) (Nat.le_of_ble_eq_true rfl) ?_
  refine va_putF (D := G.1) (ci := 9) (v := .ref q1) (ty := .array .long) (C := RX9) (T := TX9) (N := 4) hx hb hts inG_X9 tyX9 tyX9_ok nmX9 hown hK hP hD hS 0 rfl rfl 2 (by decide) (hts _ fl_X9_9) (fun _ h9 => h9) rfl hin rfl (by decide +kernel) rfl rfl (Nat.le_of_ble_eq_true rfl) dX9_init_9 (fun H locs hP hD hS => ?_)
  refine g5_rs [(a0, .inr (9, [.null, .null, .ref q1, .null])), (q1, (arJ G 24 (fun _ => 0)))] hP hD (fun hP hD => ?_)
  refine lv_aload_n hx hb dX9_init_12 rfl (lv_at hl 0 rfl) ?_
  refine lv_sipush (v := 1536) hx hb dX9_init_13 (by decide) ?_
  refine va_newa (D := G.1) (atype := .int) (ty := .int) hx hb (hts _ acl_I) rfl hK hP hD hS hA (n := 1536) (N' := 1536) (a0 := (1536, .inl (fun _ => 0))) (fun _ => rfl) (by decide) (by decide) (by decide) (Nat.le_of_ble_eq_true rfl) (Nat.le_of_ble_eq_true rfl) dX9_init_16 (fun q2 cA H hKn hP hD hS => ?_)
  obtain rfl : cA = G.2 0 := g5_cI hKn
  refine g5_rs [(a0, .inr (9, [.null, .null, .ref q1, .null])), (q1, (arJ G 24 (fun _ => 0))), (q2, (arI G 1536 (fun _ => 0)))] hP hD (fun hP hD => ?_)
  refine W.widen (k := 2) (n := 1560) (Nat.le_of_ble_eq_true rfl) (Nat.le_of_ble_eq_true rfl) ?_
  refine va_putF (D := G.1) (ci := 9) (v := .ref q2) (ty := .array .int) (C := RX9) (T := TX9) (N := 4) hx hb hts inG_X9 tyX9 tyX9_ok nmX9 hown hK hP hD hS 0 rfl rfl 3 (by decide) (hts _ fl_X9_15) (fun _ h9 => h9) rfl hin rfl (by decide +kernel) rfl rfl (Nat.le_of_ble_eq_true rfl) dX9_init_18 (fun H locs hP hD hS => ?_)
  refine g5_rs [(a0, .inr (9, [.null, .null, .ref q1, .ref q2])), (q1, (arJ G 24 (fun _ => 0))), (q2, (arI G 1536 (fun _ => 0)))] hP hD (fun hP hD => ?_)
  refine lv_aload_n hx hb dX9_init_21 rfl (lv_at hl 0 rfl) ?_
  refine lv_aload_n hx hb dX9_init_22 rfl (lv_at hl 1 rfl) ?_
  refine va_putF (D := G.1) (ci := 9) (v := .ref a1) (ty := .object "LateGlass$House") (C := RX9) (T := TX9) (N := 4) hx hb hts inG_X9 tyX9 tyX9_ok nmX9 hown hK hP hD hS 0 rfl rfl 0 (by decide) (hts _ fl_X9_19) (fun _ h9 => h9) rfl hin rfl (by decide +kernel) rfl rfl (Nat.le_of_ble_eq_true rfl) dX9_init_23 (fun H locs hP hD hS => ?_)
  refine g5_rs [(a0, .inr (9, [.ref a1, .null, .ref q1, .ref q2])), (q1, (arJ G 24 (fun _ => 0))), (q2, (arI G 1536 (fun _ => 0)))] hP hD (fun hP hD => ?_)
  refine lv_aload_n hx hb dX9_init_26 rfl (lv_at hl 0 rfl) ?_
  refine lv_aload_n hx hb dX9_init_27 rfl (lv_at hl 2 rfl) ?_
  refine va_putF (D := G.1) (ci := 9) (v := .ref a2) (ty := .object "LateGlass$Look") (C := RX9) (T := TX9) (N := 4) hx hb hts inG_X9 tyX9 tyX9_ok nmX9 hown hK hP hD hS 0 rfl rfl 1 (by decide) (hts _ fl_X9_23) (fun _ h9 => h9) rfl hin rfl (by decide +kernel) rfl rfl (Nat.le_of_ble_eq_true rfl) dX9_init_28 (fun H locs hP hD hS => ?_)
  refine g5_rs [(a0, (oc9 a1 a2 q1 q2)), (q1, (arJ G 24 (fun _ => 0))), (q2, (arI G 1536 (fun _ => 0)))] hP hD (fun hP hD => ?_)
  exact W.vret hx hb hr (fun t ht hW => ⟨⟨[(a0, (oc9 a1 a2 q1 q2)), (q1, (arJ G 24 (fun _ => 0))), (q2, (arI G 1536 (fun _ => 0)))], rfl, ⟨q1, q2, rfl⟩, by rw [ht]; exact hP, hD⟩, hS.F ht⟩) hS.2.2 dX9_init_31
theorem cd_X9_init : Cond.code yX9_init cX9_init 3 none ∈ tblG := tg 378 (by decide +kernel) (by decide +kernel)
theorem gW_X9_init : GoodIn tblG (wsG yX9_init cX9_init 3 none) := tgi cd_X9_init
theorem ml_X11_58 : Cond.methodLink RX11 58 yX9_init ∈ tblG := tg 376 (by decide +kernel) (by decide +kernel)
theorem im_X9_init : Cond.instanceMethod yX9_init ∈ tblG := tg 377 (by decide +kernel) (by decide +kernel)
theorem hs_X9_init : yX9_init.cls ≠ "java/lang/invoke/MethodHandle" ∧ yX9_init.cls ≠ "java/lang/invoke/VarHandle" ∧ (parseMethodDescriptor yX9_init.desc).map (fun d => d.parameters.length) = some 2 := by decide +kernel
theorem cl_X11_63 : Cond.classLink RX11 63 RX4 ∈ tblG := tg 393 (by decide +kernel) (by decide +kernel)
theorem oi_X4_3 : Cond.methodLink RX4 3 objectInit ∈ tblG := tg 398 (by decide +kernel) (by decide +kernel)
theorem cl_X4_9 : Cond.classLink RX4 9 RX8 ∈ tblG := tg 399 (by decide +kernel) (by decide +kernel)
theorem oi_X8_3 : Cond.methodLink RX8 3 objectInit ∈ tblG := tg 404 (by decide +kernel) (by decide +kernel)
theorem dgX8_init_0 : ∀ r ∈ ([(0, (.aload_n 0, 1)), (1, (.invokespecial 3, 3)), (4, (.aload_n 0, 1)), (5, (.sipush 401, 3)), (8, (.newarray .int, 2)), (10, (.putfield 9, 3)), (13, (.aload_n 0, 1)), (14, (.sipush 401, 3)), (17, (.newarray .int, 2)), (19, (.putfield 15, 3)), (22, (.aload_n 0, 1)), (23, (.sipush 401, 3)), (26, (.newarray .int, 2)), (28, (.putfield 18, 3)), (31, (.return_, 1))] : List (Nat × (Instr × Nat))), decode cX8_init r.1 = .ok r.2 := by decide +kernel
theorem dX8_init_0 : decode cX8_init 0 = .ok (.aload_n 0, 1) := dgX8_init_0 (0, (.aload_n 0, 1)) (List.mem_of_getElem? (i := 0) rfl)
theorem dX8_init_1 : decode cX8_init 1 = .ok (.invokespecial 3, 3) := dgX8_init_0 (1, (.invokespecial 3, 3)) (List.mem_of_getElem? (i := 1) rfl)
theorem dX8_init_4 : decode cX8_init 4 = .ok (.aload_n 0, 1) := dgX8_init_0 (4, (.aload_n 0, 1)) (List.mem_of_getElem? (i := 2) rfl)
theorem dX8_init_5 : decode cX8_init 5 = .ok (.sipush 401, 3) := dgX8_init_0 (5, (.sipush 401, 3)) (List.mem_of_getElem? (i := 3) rfl)
theorem dX8_init_8 : decode cX8_init 8 = .ok (.newarray .int, 2) := dgX8_init_0 (8, (.newarray .int, 2)) (List.mem_of_getElem? (i := 4) rfl)
theorem dX8_init_10 : decode cX8_init 10 = .ok (.putfield 9, 3) := dgX8_init_0 (10, (.putfield 9, 3)) (List.mem_of_getElem? (i := 5) rfl)
theorem dX8_init_13 : decode cX8_init 13 = .ok (.aload_n 0, 1) := dgX8_init_0 (13, (.aload_n 0, 1)) (List.mem_of_getElem? (i := 6) rfl)
theorem dX8_init_14 : decode cX8_init 14 = .ok (.sipush 401, 3) := dgX8_init_0 (14, (.sipush 401, 3)) (List.mem_of_getElem? (i := 7) rfl)
theorem dX8_init_17 : decode cX8_init 17 = .ok (.newarray .int, 2) := dgX8_init_0 (17, (.newarray .int, 2)) (List.mem_of_getElem? (i := 8) rfl)
theorem dX8_init_19 : decode cX8_init 19 = .ok (.putfield 15, 3) := dgX8_init_0 (19, (.putfield 15, 3)) (List.mem_of_getElem? (i := 9) rfl)
theorem dX8_init_22 : decode cX8_init 22 = .ok (.aload_n 0, 1) := dgX8_init_0 (22, (.aload_n 0, 1)) (List.mem_of_getElem? (i := 10) rfl)
theorem dX8_init_23 : decode cX8_init 23 = .ok (.sipush 401, 3) := dgX8_init_0 (23, (.sipush 401, 3)) (List.mem_of_getElem? (i := 11) rfl)
theorem dX8_init_26 : decode cX8_init 26 = .ok (.newarray .int, 2) := dgX8_init_0 (26, (.newarray .int, 2)) (List.mem_of_getElem? (i := 12) rfl)
theorem dX8_init_28 : decode cX8_init 28 = .ok (.putfield 18, 3) := dgX8_init_0 (28, (.putfield 18, 3)) (List.mem_of_getElem? (i := 13) rfl)
theorem dX8_init_31 : decode cX8_init 31 = .ok (.return_, 1) := dgX8_init_0 (31, (.return_, 1)) (List.mem_of_getElem? (i := 14) rfl)
set_option maxHeartbeats 4000000 in
set_option maxRecDepth 100000 in
theorem kX8_init (l : Launch) (G : g5_G) (a0 : Nat) (sz : Nat) : Met l yX8_init (wsG yX8_init cX8_init 1 none) ({ frames := 1, cells := 3, slots := 1203, locals := 12 }) (va_Pc [.ref a0] (g5_P G [(a0, .inr (8, [.null, .null, .null]))] sz)) (va_Qv (fun (u : va_W) => (∃ (q1 : Nat) (q2 : Nat) (q3 : Nat), (u = [(a0, (oc8 q1 q2 q3)), (q1, (arI G 401 (fun _ => 0))), (q2, (arI G 401 (fun _ => 0))), (q3, (arI G 401 (fun _ => 0)))]))) (g5_B G (va_A [(a0, .inr (8, [.null, .null, .null]))] sz)) (va_A [(a0, .inr (8, [.null, .null, .null]))] sz)) 3 1203 (va_A [(a0, .inr (8, [.null, .null, .null]))] sz) := by
  refine Met.ofW (cc := cX8_init) (maxL := 1) (ret := none) (by decide) rfl ?_
  intro p e s m args below meth c s₁ B hml hv
  obtain ⟨rfl, hsz, hP, hK, hD0, hN, hT⟩ := hv
  have hx := B.exec
  have hb := B.bytes
  have hr := B.returns
  have hts : ∀ w ∈ tblG, w.before _ s = true := fun w h => atoms_spec (ws := (wsG yX8_init cX8_init 1 none)) B.pre w (List.mem_cons_of_mem _ h)
  have hown : s.vm.findClass RX8 = some m.cls := findClass_of_methodNamed B.named
  have hlocks := B.notSynchronized
  have hin : meth.name = "<init>" := (name_of_methodNamed B.named B.method).1
  subst hsz
  have hD := hD0.self (sz := s.heap.size)
  generalize hAe : va_A [(a0, .inr (8, [.null, .null, .null]))] s.heap.size = A at hD hT ⊢
  have hA : ∀ q : Nat, s.heap.size ≤ q → A q := fun q h => by rw [← hAe]; exact Or.inr h
  have hS : va_S A s.heap s.heap [] := va_S.rf
  have hP : va_P G.1 vwCl [(a0, .inr (8, [.null, .null, .null]))] s.heap := hP
  have hl := lv_entry ([.ref a0]) (n := 1) (Nat.le_of_ble_eq_true rfl)
  rw [lg_entry_eq]
  generalize (lg_sl ([.ref a0]) ++ List.replicate (1 - (lg_sl ([.ref a0])).length) Slot.unset).toArray = ls at hl ⊢
  have hl : lv_has ls 1 [(0, .ref a0)] := hl
  refine lv_aload_n hx hb dX8_init_0 rfl (lv_at hl 0 rfl) ?_
  refine W.objInit hx hb hown (hts _ oi_X8_3) (hts _ oi_im) (hts _ oi_cd) rfl (by rw [hml]; exact hl.1) rfl dX8_init_1 (Nat.le_of_ble_eq_true rfl) (Nat.le_of_ble_eq_true rfl) ?_
  refine W.eq (g2 := F0 m 4 ls []) rfl ?_
  refine lv_aload_n hx hb dX8_init_4 rfl (lv_at hl 0 rfl) ?_
  refine lv_sipush (v := 401) hx hb dX8_init_5 (by decide) ?_
  refine va_newa (D := G.1) (atype := .int) (ty := .int) hx hb (hts _ acl_I) rfl hK hP hD hS hA (n := 401) (N' := 401) (a0 := (401, .inl (fun _ => 0))) (fun _ => rfl) (by decide) (by decide) (by decide) (Nat.le_of_ble_eq_true rfl) (Nat.le_of_ble_eq_true rfl) dX8_init_8 (fun q1 cA H hKn hP hD hS => ?_)
  obtain rfl : cA = G.2 0 := g5_cI hKn
  refine g5_rs [(a0, .inr (8, [.null, .null, .null])), (q1, (arI G 401 (fun _ => 0)))] hP hD (fun hP hD => ?_)
  refine W.widen (k := 1) (n := 401) (Nat.le_of_ble_eq_true rfl) (Nat.le_of_ble_eq_true rfl) ?_
  refine va_putF (D := G.1) (ci := 8) (v := .ref q1) (ty := .array .int) (C := RX8) (T := TX8) (N := 3) hx hb hts inG_X8 tyX8 tyX8_ok nmX8 hown hK hP hD hS 0 rfl rfl 0 (by decide) (hts _ fl_X8_9) (fun _ h9 => h9) rfl hin rfl (by decide +kernel) rfl rfl (Nat.le_of_ble_eq_true rfl) dX8_init_10 (fun H locs hP hD hS => ?_)
  refine g5_rs [(a0, .inr (8, [.ref q1, .null, .null])), (q1, (arI G 401 (fun _ => 0)))] hP hD (fun hP hD => ?_)
  refine lv_aload_n hx hb dX8_init_13 rfl (lv_at hl 0 rfl) ?_
  refine lv_sipush (v := 401) hx hb dX8_init_14 (by decide) ?_
  refine va_newa (D := G.1) (atype := .int) (ty := .int) hx hb (hts _ acl_I) rfl hK hP hD hS hA (n := 401) (N' := 401) (a0 := (401, .inl (fun _ => 0))) (fun _ => rfl) (by decide) (by decide) (by decide) (Nat.le_of_ble_eq_true rfl) (Nat.le_of_ble_eq_true rfl) dX8_init_17 (fun q2 cA H hKn hP hD hS => ?_)
  obtain rfl : cA = G.2 0 := g5_cI hKn
  refine g5_rs [(a0, .inr (8, [.ref q1, .null, .null])), (q1, (arI G 401 (fun _ => 0))), (q2, (arI G 401 (fun _ => 0)))] hP hD (fun hP hD => ?_)
  refine W.widen (k := 2) (n := 802) (Nat.le_of_ble_eq_true rfl) (Nat.le_of_ble_eq_true rfl) ?_
  refine va_putF (D := G.1) (ci := 8) (v := .ref q2) (ty := .array .int) (C := RX8) (T := TX8) (N := 3) hx hb hts inG_X8 tyX8 tyX8_ok nmX8 hown hK hP hD hS 0 rfl rfl 1 (by decide) (hts _ fl_X8_15) (fun _ h9 => h9) rfl hin rfl (by decide +kernel) rfl rfl (Nat.le_of_ble_eq_true rfl) dX8_init_19 (fun H locs hP hD hS => ?_)
  refine g5_rs [(a0, .inr (8, [.ref q1, .ref q2, .null])), (q1, (arI G 401 (fun _ => 0))), (q2, (arI G 401 (fun _ => 0)))] hP hD (fun hP hD => ?_)
  refine lv_aload_n hx hb dX8_init_22 rfl (lv_at hl 0 rfl) ?_
  refine lv_sipush (v := 401) hx hb dX8_init_23 (by decide) ?_
  refine va_newa (D := G.1) (atype := .int) (ty := .int) hx hb (hts _ acl_I) rfl hK hP hD hS hA (n := 401) (N' := 401) (a0 := (401, .inl (fun _ => 0))) (fun _ => rfl) (by decide) (by decide) (by decide) (Nat.le_of_ble_eq_true rfl) (Nat.le_of_ble_eq_true rfl) dX8_init_26 (fun q3 cA H hKn hP hD hS => ?_)
  obtain rfl : cA = G.2 0 := g5_cI hKn
  refine g5_rs [(a0, .inr (8, [.ref q1, .ref q2, .null])), (q1, (arI G 401 (fun _ => 0))), (q2, (arI G 401 (fun _ => 0))), (q3, (arI G 401 (fun _ => 0)))] hP hD (fun hP hD => ?_)
  refine W.widen (k := 3) (n := 1203) (Nat.le_of_ble_eq_true rfl) (Nat.le_of_ble_eq_true rfl) ?_
  refine va_putF (D := G.1) (ci := 8) (v := .ref q3) (ty := .array .int) (C := RX8) (T := TX8) (N := 3) hx hb hts inG_X8 tyX8 tyX8_ok nmX8 hown hK hP hD hS 0 rfl rfl 2 (by decide) (hts _ fl_X8_18) (fun _ h9 => h9) rfl hin rfl (by decide +kernel) rfl rfl (Nat.le_of_ble_eq_true rfl) dX8_init_28 (fun H locs hP hD hS => ?_)
  refine g5_rs [(a0, (oc8 q1 q2 q3)), (q1, (arI G 401 (fun _ => 0))), (q2, (arI G 401 (fun _ => 0))), (q3, (arI G 401 (fun _ => 0)))] hP hD (fun hP hD => ?_)
  exact W.vret hx hb hr (fun t ht hW => ⟨⟨[(a0, (oc8 q1 q2 q3)), (q1, (arI G 401 (fun _ => 0))), (q2, (arI G 401 (fun _ => 0))), (q3, (arI G 401 (fun _ => 0)))], rfl, ⟨q1, q2, q3, rfl⟩, by rw [ht]; exact hP, hD⟩, hS.F ht⟩) hS.2.2 dX8_init_31
theorem cd_X8_init : Cond.code yX8_init cX8_init 1 none ∈ tblG := tg 403 (by decide +kernel) (by decide +kernel)
theorem gW_X8_init : GoodIn tblG (wsG yX8_init cX8_init 1 none) := tgi cd_X8_init
theorem hs_X8_init : yX8_init.cls ≠ "java/lang/invoke/MethodHandle" ∧ yX8_init.cls ≠ "java/lang/invoke/VarHandle" ∧ (parseMethodDescriptor yX8_init.desc).map (fun d => d.parameters.length) = some 0 := by decide +kernel
theorem im_X8_init : Cond.instanceMethod yX8_init ∈ tblG := tg 402 (by decide +kernel) (by decide +kernel)
theorem dgX4_init_0 : ∀ r ∈ ([(0, (.aload_n 0, 1)), (1, (.invokespecial 3, 3)), (4, (.aload_n 0, 1)), (5, (.new 9, 3)), (8, (.dup, 1)), (9, (.invokespecial 11, 3)), (12, (.putfield 12, 3)), (15, (.aload_n 0, 1)), (16, (.bipush 12, 2)), (18, (.newarray .int, 2)), (20, (.putfield 18, 3)), (23, (.aload_n 0, 1)), (24, (.bipush 13, 2)), (26, (.newarray .int, 2)), (28, (.putfield 22, 3)), (31, (.aload_n 0, 1)), (32, (.sipush 400, 3)), (35, (.newarray .int, 2)), (37, (.putfield 25, 3)), (40, (.aload_n 0, 1)), (41, (.iconst (-1), 1)), (42, (.putfield 28, 3)), (45, (.return_, 1))] : List (Nat × (Instr × Nat))), decode cX4_init r.1 = .ok r.2 := by decide +kernel
theorem dX4_init_0 : decode cX4_init 0 = .ok (.aload_n 0, 1) := dgX4_init_0 (0, (.aload_n 0, 1)) (List.mem_of_getElem? (i := 0) rfl)
theorem dX4_init_1 : decode cX4_init 1 = .ok (.invokespecial 3, 3) := dgX4_init_0 (1, (.invokespecial 3, 3)) (List.mem_of_getElem? (i := 1) rfl)
theorem dX4_init_4 : decode cX4_init 4 = .ok (.aload_n 0, 1) := dgX4_init_0 (4, (.aload_n 0, 1)) (List.mem_of_getElem? (i := 2) rfl)
theorem dX4_init_5 : decode cX4_init 5 = .ok (.new 9, 3) := dgX4_init_0 (5, (.new 9, 3)) (List.mem_of_getElem? (i := 3) rfl)
theorem dX4_init_8 : decode cX4_init 8 = .ok (.dup, 1) := dgX4_init_0 (8, (.dup, 1)) (List.mem_of_getElem? (i := 4) rfl)
theorem dX4_init_9 : decode cX4_init 9 = .ok (.invokespecial 11, 3) := dgX4_init_0 (9, (.invokespecial 11, 3)) (List.mem_of_getElem? (i := 5) rfl)
theorem dX4_init_12 : decode cX4_init 12 = .ok (.putfield 12, 3) := dgX4_init_0 (12, (.putfield 12, 3)) (List.mem_of_getElem? (i := 6) rfl)
theorem dX4_init_15 : decode cX4_init 15 = .ok (.aload_n 0, 1) := dgX4_init_0 (15, (.aload_n 0, 1)) (List.mem_of_getElem? (i := 7) rfl)
theorem dX4_init_16 : decode cX4_init 16 = .ok (.bipush 12, 2) := dgX4_init_0 (16, (.bipush 12, 2)) (List.mem_of_getElem? (i := 8) rfl)
theorem dX4_init_18 : decode cX4_init 18 = .ok (.newarray .int, 2) := dgX4_init_0 (18, (.newarray .int, 2)) (List.mem_of_getElem? (i := 9) rfl)
theorem dX4_init_20 : decode cX4_init 20 = .ok (.putfield 18, 3) := dgX4_init_0 (20, (.putfield 18, 3)) (List.mem_of_getElem? (i := 10) rfl)
theorem dX4_init_23 : decode cX4_init 23 = .ok (.aload_n 0, 1) := dgX4_init_0 (23, (.aload_n 0, 1)) (List.mem_of_getElem? (i := 11) rfl)
theorem dX4_init_24 : decode cX4_init 24 = .ok (.bipush 13, 2) := dgX4_init_0 (24, (.bipush 13, 2)) (List.mem_of_getElem? (i := 12) rfl)
theorem dX4_init_26 : decode cX4_init 26 = .ok (.newarray .int, 2) := dgX4_init_0 (26, (.newarray .int, 2)) (List.mem_of_getElem? (i := 13) rfl)
theorem dX4_init_28 : decode cX4_init 28 = .ok (.putfield 22, 3) := dgX4_init_0 (28, (.putfield 22, 3)) (List.mem_of_getElem? (i := 14) rfl)
theorem dX4_init_31 : decode cX4_init 31 = .ok (.aload_n 0, 1) := dgX4_init_0 (31, (.aload_n 0, 1)) (List.mem_of_getElem? (i := 15) rfl)
theorem dX4_init_32 : decode cX4_init 32 = .ok (.sipush 400, 3) := dgX4_init_0 (32, (.sipush 400, 3)) (List.mem_of_getElem? (i := 16) rfl)
theorem dX4_init_35 : decode cX4_init 35 = .ok (.newarray .int, 2) := dgX4_init_0 (35, (.newarray .int, 2)) (List.mem_of_getElem? (i := 17) rfl)
theorem dX4_init_37 : decode cX4_init 37 = .ok (.putfield 25, 3) := dgX4_init_0 (37, (.putfield 25, 3)) (List.mem_of_getElem? (i := 18) rfl)
theorem dX4_init_40 : decode cX4_init 40 = .ok (.aload_n 0, 1) := dgX4_init_0 (40, (.aload_n 0, 1)) (List.mem_of_getElem? (i := 19) rfl)
theorem dX4_init_41 : decode cX4_init 41 = .ok (.iconst (-1), 1) := dgX4_init_0 (41, (.iconst (-1), 1)) (List.mem_of_getElem? (i := 20) rfl)
theorem dX4_init_42 : decode cX4_init 42 = .ok (.putfield 28, 3) := dgX4_init_0 (42, (.putfield 28, 3)) (List.mem_of_getElem? (i := 21) rfl)
theorem dX4_init_45 : decode cX4_init 45 = .ok (.return_, 1) := dgX4_init_0 (45, (.return_, 1)) (List.mem_of_getElem? (i := 22) rfl)
set_option maxHeartbeats 4000000 in
set_option maxRecDepth 100000 in
theorem kX4_init (l : Launch) (G : g5_G) (a0 : Nat) (sz : Nat) : Met l yX4_init (wsG yX4_init cX4_init 1 none) ({ frames := 2, cells := 7, slots := 1631, locals := 32 }) (va_Pc [.ref a0] (g5_P G [(a0, .inr (4, [.null, .null, .null, .null, .int 0, .int 0, .int 0, .int 0]))] sz)) (va_Qv (fun (u : va_W) => (∃ (q1 : Nat) (q2 : Nat) (q3 : Nat) (q4 : Nat) (q5 : Nat) (q6 : Nat) (q7 : Nat), (u = [(a0, (oc4 q1 q5 q6 q7 0 0 0 (-1))), (q1, (oc8 q2 q3 q4)), (q2, (arI G 401 (fun _ => 0))), (q3, (arI G 401 (fun _ => 0))), (q4, (arI G 401 (fun _ => 0))), (q5, (arI G 12 (fun _ => 0))), (q6, (arI G 13 (fun _ => 0))), (q7, (arI G 400 (fun _ => 0)))]))) (g5_B G (va_A [(a0, .inr (4, [.null, .null, .null, .null, .int 0, .int 0, .int 0, .int 0]))] sz)) (va_A [(a0, .inr (4, [.null, .null, .null, .null, .int 0, .int 0, .int 0, .int 0]))] sz)) 7 1631 (va_A [(a0, .inr (4, [.null, .null, .null, .null, .int 0, .int 0, .int 0, .int 0]))] sz) := by
  refine Met.ofW (cc := cX4_init) (maxL := 1) (ret := none) (by decide) rfl ?_
  intro p e s m args below meth c s₁ B hml hv
  obtain ⟨rfl, hsz, hP, hK, hD0, hN, hT⟩ := hv
  have hx := B.exec
  have hb := B.bytes
  have hr := B.returns
  have hts : ∀ w ∈ tblG, w.before _ s = true := fun w h => atoms_spec (ws := (wsG yX4_init cX4_init 1 none)) B.pre w (List.mem_cons_of_mem _ h)
  have hown : s.vm.findClass RX4 = some m.cls := findClass_of_methodNamed B.named
  have hlocks := B.notSynchronized
  have hin : meth.name = "<init>" := (name_of_methodNamed B.named B.method).1
  subst hsz
  have hD := hD0.self (sz := s.heap.size)
  generalize hAe : va_A [(a0, .inr (4, [.null, .null, .null, .null, .int 0, .int 0, .int 0, .int 0]))] s.heap.size = A at hD hT ⊢
  have hA : ∀ q : Nat, s.heap.size ≤ q → A q := fun q h => by rw [← hAe]; exact Or.inr h
  have hS : va_S A s.heap s.heap [] := va_S.rf
  have hP : va_P G.1 vwCl [(a0, .inr (4, [.null, .null, .null, .null, .int 0, .int 0, .int 0, .int 0]))] s.heap := hP
  have hl := lv_entry ([.ref a0]) (n := 1) (Nat.le_of_ble_eq_true rfl)
  rw [lg_entry_eq]
  generalize (lg_sl ([.ref a0]) ++ List.replicate (1 - (lg_sl ([.ref a0])).length) Slot.unset).toArray = ls at hl ⊢
  have hl : lv_has ls 1 [(0, .ref a0)] := hl
  refine lv_aload_n hx hb dX4_init_0 rfl (lv_at hl 0 rfl) ?_
  refine W.objInit hx hb hown (hts _ oi_X4_3) (hts _ oi_im) (hts _ oi_cd) rfl (by rw [hml]; exact hl.1) rfl dX4_init_1 (Nat.le_of_ble_eq_true rfl) (Nat.le_of_ble_eq_true rfl) ?_
  refine W.eq (g2 := F0 m 4 ls []) rfl ?_
  refine lv_aload_n hx hb dX4_init_4 rfl (lv_at hl 0 rfl) ?_
  refine va_new (D := G.1) (ci := 8) (fs := [.null, .null, .null]) (C := RX8) (T := TX8) (N := 3) hx hb hts inG_X8 tyX8 tyX8_ok hown (hts _ cl_X4_9) (hts _ isn_X8) (hts _ ini_X8) hK hP hD hS hA rfl (fun j hj => by rcases (show j = 0 ∨ j = 1 ∨ j = 2 by omega) with rfl | rfl | rfl <;> rfl) (Nat.le_of_ble_eq_true rfl) (Nat.le_of_ble_eq_true rfl) dX4_init_5 (fun q1 H hP hD hS => ?_)
  refine g5_rs [(a0, .inr (4, [.null, .null, .null, .null, .int 0, .int 0, .int 0, .int 0])), (q1, .inr (8, [.null, .null, .null]))] hP hD (fun hP hD => ?_)
  refine W.widen (k := 1) (n := 3) (Nat.le_of_ble_eq_true rfl) (Nat.le_of_ble_eq_true rfl) ?_
  refine lv_dup hx hb dX4_init_8 rfl ?_
  obtain ⟨hPc, hDc, hFc⟩ := g5_sub3 (wc := [(q1, .inr (8, [.null, .null, .null]))]) hP hD hS hA [1] (by decide) rfl
  refine va_callv (va_runIN (As := []) (rest := [.ref q1, .ref a0]) ⟨hx, hb, hml, hown, hts⟩ (kX8_init l G q1 H.size) ⟨va_cnB 0 hts gW_X8_init rfl rfl rfl (hN.1 _ g5_nw_X4_11) (hts _ ini_X8) hs_X8_init ⟨Nat.le_of_ble_eq_true rfl, Nat.le_of_ble_eq_true rfl⟩, rfl, hts _ im_X8_init⟩ (g5_preS hPc hK hDc hN hT hS hFc) rfl rfl hl.1 rfl (lv_room (Nat.le_of_ble_eq_true rfl)) dX4_init_9 ⟨Nat.le_of_ble_eq_true rfl, Nat.le_of_ble_eq_true rfl⟩) hS (fun q _ h => hFc q h) hFc (fun u t H1 locs ht hvm hw hB hz1 hk1 hS => ?_)
  obtain ⟨hP1, hD1⟩ := hB
  rw [ht] at hP1
  refine W.widen (k := 4) (n := 1206) (Nat.le_of_ble_eq_true rfl) (Nat.le_of_ble_eq_true rfl) ?_
  obtain ⟨q2, q3, q4, rfl⟩ := hw
  obtain ⟨hP, hD⟩ := va_join (wr := [(a0, .inr (4, [.null, .null, .null, .null, .int 0, .int 0, .int 0, .int 0]))]) hP hD [1] [0] rfl rfl (by decide) (by decide) hk1 hFc hP1 hD1
  generalize H1 = H at hP hS ⊢
  refine g5_rs [(a0, .inr (4, [.null, .null, .null, .null, .int 0, .int 0, .int 0, .int 0])), (q1, (oc8 q2 q3 q4)), (q2, (arI G 401 (fun _ => 0))), (q3, (arI G 401 (fun _ => 0))), (q4, (arI G 401 (fun _ => 0)))] hP hD (fun hP hD => ?_)
  refine va_putF (D := G.1) (ci := 4) (v := .ref q1) (ty := .object "LateGlass$Tokens") (C := RX4) (T := TX4) (N := 8) hx hb hts inG_X4 tyX4 tyX4_ok nmX4 hown hK hP hD hS 0 rfl rfl 0 (by decide) (hts _ fl_X4_12) (fun _ h9 => h9) rfl hin rfl (by decide +kernel) rfl rfl (Nat.le_of_ble_eq_true rfl) dX4_init_12 (fun H locs hP hD hS => ?_)
  refine g5_rs [(a0, .inr (4, [.ref q1, .null, .null, .null, .int 0, .int 0, .int 0, .int 0])), (q1, (oc8 q2 q3 q4)), (q2, (arI G 401 (fun _ => 0))), (q3, (arI G 401 (fun _ => 0))), (q4, (arI G 401 (fun _ => 0)))] hP hD (fun hP hD => ?_)
  refine lv_aload_n hx hb dX4_init_15 rfl (lv_at hl 0 rfl) ?_
  refine lv_bipush (v := 12) hx hb dX4_init_16 (by decide) ?_
  refine va_newa (D := G.1) (atype := .int) (ty := .int) hx hb (hts _ acl_I) rfl hK hP hD hS hA (n := 12) (N' := 12) (a0 := (12, .inl (fun _ => 0))) (fun _ => rfl) (by decide) (by decide) (by decide) (Nat.le_of_ble_eq_true rfl) (Nat.le_of_ble_eq_true rfl) dX4_init_18 (fun q5 cA H hKn hP hD hS => ?_)
  obtain rfl : cA = G.2 0 := g5_cI hKn
  refine g5_rs [(a0, .inr (4, [.ref q1, .null, .null, .null, .int 0, .int 0, .int 0, .int 0])), (q1, (oc8 q2 q3 q4)), (q2, (arI G 401 (fun _ => 0))), (q3, (arI G 401 (fun _ => 0))), (q4, (arI G 401 (fun _ => 0))), (q5, (arI G 12 (fun _ => 0)))] hP hD (fun hP hD => ?_)
  refine W.widen (k := 5) (n := 1218) (Nat.le_of_ble_eq_true rfl) (Nat.le_of_ble_eq_true rfl) ?_
  refine va_putF (D := G.1) (ci := 4) (v := .ref q5) (ty := .array .int) (C := RX4) (T := TX4) (N := 8) hx hb hts inG_X4 tyX4 tyX4_ok nmX4 hown hK hP hD hS 0 rfl rfl 1 (by decide) (hts _ fl_X4_18) (fun _ h9 => h9) rfl hin rfl (by decide +kernel) rfl rfl (Nat.le_of_ble_eq_true rfl) dX4_init_20 (fun H locs hP hD hS => ?_)
  refine g5_rs [(a0, .inr (4, [.ref q1, .ref q5, .null, .null, .int 0, .int 0, .int 0, .int 0])), (q1, (oc8 q2 q3 q4)), (q2, (arI G 401 (fun _ => 0))), (q3, (arI G 401 (fun _ => 0))), (q4, (arI G 401 (fun _ => 0))), (q5, (arI G 12 (fun _ => 0)))] hP hD (fun hP hD => ?_)
  refine lv_aload_n hx hb dX4_init_23 rfl (lv_at hl 0 rfl) ?_
  refine lv_bipush (v := 13) hx hb dX4_init_24 (by decide) ?_
  refine va_newa (D := G.1) (atype := .int) (ty := .int) hx hb (hts _ acl_I) rfl hK hP hD hS hA (n := 13) (N' := 13) (a0 := (13, .inl (fun _ => 0))) (fun _ => rfl) (by decide) (by decide) (by decide) (Nat.le_of_ble_eq_true rfl) (Nat.le_of_ble_eq_true rfl) dX4_init_26 (fun q6 cA H hKn hP hD hS => ?_)
  obtain rfl : cA = G.2 0 := g5_cI hKn
  refine g5_rs [(a0, .inr (4, [.ref q1, .ref q5, .null, .null, .int 0, .int 0, .int 0, .int 0])), (q1, (oc8 q2 q3 q4)), (q2, (arI G 401 (fun _ => 0))), (q3, (arI G 401 (fun _ => 0))), (q4, (arI G 401 (fun _ => 0))), (q5, (arI G 12 (fun _ => 0))), (q6, (arI G 13 (fun _ => 0)))] hP hD (fun hP hD => ?_)
  refine W.widen (k := 6) (n := 1231) (Nat.le_of_ble_eq_true rfl) (Nat.le_of_ble_eq_true rfl) ?_
  refine va_putF (D := G.1) (ci := 4) (v := .ref q6) (ty := .array .int) (C := RX4) (T := TX4) (N := 8) hx hb hts inG_X4 tyX4 tyX4_ok nmX4 hown hK hP hD hS 0 rfl rfl 2 (by decide) (hts _ fl_X4_22) (fun _ h9 => h9) rfl hin rfl (by decide +kernel) rfl rfl (Nat.le_of_ble_eq_true rfl) dX4_init_28 (fun H locs hP hD hS => ?_)
  refine g5_rs [(a0, .inr (4, [.ref q1, .ref q5, .ref q6, .null, .int 0, .int 0, .int 0, .int 0])), (q1, (oc8 q2 q3 q4)), (q2, (arI G 401 (fun _ => 0))), (q3, (arI G 401 (fun _ => 0))), (q4, (arI G 401 (fun _ => 0))), (q5, (arI G 12 (fun _ => 0))), (q6, (arI G 13 (fun _ => 0)))] hP hD (fun hP hD => ?_)
  refine lv_aload_n hx hb dX4_init_31 rfl (lv_at hl 0 rfl) ?_
  refine lv_sipush (v := 400) hx hb dX4_init_32 (by decide) ?_
  refine va_newa (D := G.1) (atype := .int) (ty := .int) hx hb (hts _ acl_I) rfl hK hP hD hS hA (n := 400) (N' := 400) (a0 := (400, .inl (fun _ => 0))) (fun _ => rfl) (by decide) (by decide) (by decide) (Nat.le_of_ble_eq_true rfl) (Nat.le_of_ble_eq_true rfl) dX4_init_35 (fun q7 cA H hKn hP hD hS => ?_)
  obtain rfl : cA = G.2 0 := g5_cI hKn
  refine g5_rs [(a0, .inr (4, [.ref q1, .ref q5, .ref q6, .null, .int 0, .int 0, .int 0, .int 0])), (q1, (oc8 q2 q3 q4)), (q2, (arI G 401 (fun _ => 0))), (q3, (arI G 401 (fun _ => 0))), (q4, (arI G 401 (fun _ => 0))), (q5, (arI G 12 (fun _ => 0))), (q6, (arI G 13 (fun _ => 0))), (q7, (arI G 400 (fun _ => 0)))] hP hD (fun hP hD => ?_)
  refine W.widen (k := 7) (n := 1631) (Nat.le_of_ble_eq_true rfl) (Nat.le_of_ble_eq_true rfl) ?_
  refine va_putF (D := G.1) (ci := 4) (v := .ref q7) (ty := .array .int) (C := RX4) (T := TX4) (N := 8) hx hb hts inG_X4 tyX4 tyX4_ok nmX4 hown hK hP hD hS 0 rfl rfl 3 (by decide) (hts _ fl_X4_25) (fun _ h9 => h9) rfl hin rfl (by decide +kernel) rfl rfl (Nat.le_of_ble_eq_true rfl) dX4_init_37 (fun H locs hP hD hS => ?_)
  refine g5_rs [(a0, (oc4 q1 q5 q6 q7 0 0 0 0)), (q1, (oc8 q2 q3 q4)), (q2, (arI G 401 (fun _ => 0))), (q3, (arI G 401 (fun _ => 0))), (q4, (arI G 401 (fun _ => 0))), (q5, (arI G 12 (fun _ => 0))), (q6, (arI G 13 (fun _ => 0))), (q7, (arI G 400 (fun _ => 0)))] hP hD (fun hP hD => ?_)
  refine lv_aload_n hx hb dX4_init_40 rfl (lv_at hl 0 rfl) ?_
  refine lv_iconst (v := (-1)) hx hb dX4_init_41 (by decide) ?_
  refine va_put (D := G.1) (ci := 4) (v := .int (-1)) (ty := .int) (C := RX4) (T := TX4) (N := 8) hx hb hts inG_X4 tyX4 tyX4_ok nmX4 hown hK hP hD hS 0 rfl rfl 7 (by decide) (hts _ fl_X4_28) (fun _ h9 => h9) rfl (by decide +kernel) rfl rfl (Nat.le_of_ble_eq_true rfl) dX4_init_42 (fun H locs hP hD hS => ?_)
  refine g5_rs [(a0, (oc4 q1 q5 q6 q7 0 0 0 (-1))), (q1, (oc8 q2 q3 q4)), (q2, (arI G 401 (fun _ => 0))), (q3, (arI G 401 (fun _ => 0))), (q4, (arI G 401 (fun _ => 0))), (q5, (arI G 12 (fun _ => 0))), (q6, (arI G 13 (fun _ => 0))), (q7, (arI G 400 (fun _ => 0)))] hP hD (fun hP hD => ?_)
  exact W.vret hx hb hr (fun t ht hW => ⟨⟨[(a0, (oc4 q1 q5 q6 q7 0 0 0 (-1))), (q1, (oc8 q2 q3 q4)), (q2, (arI G 401 (fun _ => 0))), (q3, (arI G 401 (fun _ => 0))), (q4, (arI G 401 (fun _ => 0))), (q5, (arI G 12 (fun _ => 0))), (q6, (arI G 13 (fun _ => 0))), (q7, (arI G 400 (fun _ => 0)))], rfl, ⟨q1, q2, q3, q4, q5, q6, q7, rfl⟩, by rw [ht]; exact hP, hD⟩, hS.F ht⟩) hS.2.2 dX4_init_45
theorem cd_X4_init : Cond.code yX4_init cX4_init 1 none ∈ tblG := tg 397 (by decide +kernel) (by decide +kernel)
theorem gW_X4_init : GoodIn tblG (wsG yX4_init cX4_init 1 none) := tgi cd_X4_init
theorem hs_X4_init : yX4_init.cls ≠ "java/lang/invoke/MethodHandle" ∧ yX4_init.cls ≠ "java/lang/invoke/VarHandle" ∧ (parseMethodDescriptor yX4_init.desc).map (fun d => d.parameters.length) = some 0 := by decide +kernel
theorem im_X4_init : Cond.instanceMethod yX4_init ∈ tblG := tg 396 (by decide +kernel) (by decide +kernel)
theorem dgX11_init_0 : ∀ r ∈ ([(0, (.aload_n 0, 1)), (1, (.invokespecial 3, 3)), (4, (.aload_n 0, 1)), (5, (.new 9, 3)), (8, (.dup, 1)), (9, (.invokespecial 11, 3)), (12, (.putfield 12, 3)), (15, (.aload_n 0, 1)), (16, (.iconst 2, 1)), (17, (.anewarray 9, 3)), (20, (.dup, 1)), (21, (.iconst 0, 1)), (22, (.new 9, 3)), (25, (.dup, 1)), (26, (.invokespecial 11, 3)), (29, (.aastore, 1)), (30, (.dup, 1)), (31, (.iconst 1, 1)), (32, (.new 9, 3)), (35, (.dup, 1)), (36, (.invokespecial 11, 3)), (39, (.aastore, 1)), (40, (.putfield 16, 3)), (43, (.aload_n 0, 1)), (44, (.iconst 2, 1)), (45, (.newarray .boolean, 2)), (47, (.putfield 20, 3)), (50, (.aload_n 0, 1)), (51, (.new 24, 3)), (54, (.dup, 1)), (55, (.aload_n 0, 1)), (56, (.getfield 12, 3)), (59, (.invokespecial 26, 3)), (62, (.putfield 29, 3)), (65, (.aload_n 0, 1)), (66, (.new 33, 3)), (69, (.dup, 1)), (70, (.aload_n 0, 1)), (71, (.getfield 12, 3)), (74, (.aload_n 0, 1))] : List (Nat × (Instr × Nat))), decode cX11_init r.1 = .ok r.2 := by decide +kernel
theorem dX11_init_0 : decode cX11_init 0 = .ok (.aload_n 0, 1) := dgX11_init_0 (0, (.aload_n 0, 1)) (List.mem_of_getElem? (i := 0) rfl)
theorem dX11_init_1 : decode cX11_init 1 = .ok (.invokespecial 3, 3) := dgX11_init_0 (1, (.invokespecial 3, 3)) (List.mem_of_getElem? (i := 1) rfl)
theorem dX11_init_4 : decode cX11_init 4 = .ok (.aload_n 0, 1) := dgX11_init_0 (4, (.aload_n 0, 1)) (List.mem_of_getElem? (i := 2) rfl)
theorem dX11_init_5 : decode cX11_init 5 = .ok (.new 9, 3) := dgX11_init_0 (5, (.new 9, 3)) (List.mem_of_getElem? (i := 3) rfl)
theorem dX11_init_8 : decode cX11_init 8 = .ok (.dup, 1) := dgX11_init_0 (8, (.dup, 1)) (List.mem_of_getElem? (i := 4) rfl)
theorem dX11_init_9 : decode cX11_init 9 = .ok (.invokespecial 11, 3) := dgX11_init_0 (9, (.invokespecial 11, 3)) (List.mem_of_getElem? (i := 5) rfl)
theorem dX11_init_12 : decode cX11_init 12 = .ok (.putfield 12, 3) := dgX11_init_0 (12, (.putfield 12, 3)) (List.mem_of_getElem? (i := 6) rfl)
theorem dX11_init_15 : decode cX11_init 15 = .ok (.aload_n 0, 1) := dgX11_init_0 (15, (.aload_n 0, 1)) (List.mem_of_getElem? (i := 7) rfl)
theorem dX11_init_16 : decode cX11_init 16 = .ok (.iconst 2, 1) := dgX11_init_0 (16, (.iconst 2, 1)) (List.mem_of_getElem? (i := 8) rfl)
theorem dX11_init_17 : decode cX11_init 17 = .ok (.anewarray 9, 3) := dgX11_init_0 (17, (.anewarray 9, 3)) (List.mem_of_getElem? (i := 9) rfl)
theorem dX11_init_20 : decode cX11_init 20 = .ok (.dup, 1) := dgX11_init_0 (20, (.dup, 1)) (List.mem_of_getElem? (i := 10) rfl)
theorem dX11_init_21 : decode cX11_init 21 = .ok (.iconst 0, 1) := dgX11_init_0 (21, (.iconst 0, 1)) (List.mem_of_getElem? (i := 11) rfl)
theorem dX11_init_22 : decode cX11_init 22 = .ok (.new 9, 3) := dgX11_init_0 (22, (.new 9, 3)) (List.mem_of_getElem? (i := 12) rfl)
theorem dX11_init_25 : decode cX11_init 25 = .ok (.dup, 1) := dgX11_init_0 (25, (.dup, 1)) (List.mem_of_getElem? (i := 13) rfl)
theorem dX11_init_26 : decode cX11_init 26 = .ok (.invokespecial 11, 3) := dgX11_init_0 (26, (.invokespecial 11, 3)) (List.mem_of_getElem? (i := 14) rfl)
theorem dX11_init_29 : decode cX11_init 29 = .ok (.aastore, 1) := dgX11_init_0 (29, (.aastore, 1)) (List.mem_of_getElem? (i := 15) rfl)
theorem dX11_init_30 : decode cX11_init 30 = .ok (.dup, 1) := dgX11_init_0 (30, (.dup, 1)) (List.mem_of_getElem? (i := 16) rfl)
theorem dX11_init_31 : decode cX11_init 31 = .ok (.iconst 1, 1) := dgX11_init_0 (31, (.iconst 1, 1)) (List.mem_of_getElem? (i := 17) rfl)
theorem dX11_init_32 : decode cX11_init 32 = .ok (.new 9, 3) := dgX11_init_0 (32, (.new 9, 3)) (List.mem_of_getElem? (i := 18) rfl)
theorem dX11_init_35 : decode cX11_init 35 = .ok (.dup, 1) := dgX11_init_0 (35, (.dup, 1)) (List.mem_of_getElem? (i := 19) rfl)
theorem dX11_init_36 : decode cX11_init 36 = .ok (.invokespecial 11, 3) := dgX11_init_0 (36, (.invokespecial 11, 3)) (List.mem_of_getElem? (i := 20) rfl)
theorem dX11_init_39 : decode cX11_init 39 = .ok (.aastore, 1) := dgX11_init_0 (39, (.aastore, 1)) (List.mem_of_getElem? (i := 21) rfl)
theorem dX11_init_40 : decode cX11_init 40 = .ok (.putfield 16, 3) := dgX11_init_0 (40, (.putfield 16, 3)) (List.mem_of_getElem? (i := 22) rfl)
theorem dX11_init_43 : decode cX11_init 43 = .ok (.aload_n 0, 1) := dgX11_init_0 (43, (.aload_n 0, 1)) (List.mem_of_getElem? (i := 23) rfl)
theorem dX11_init_44 : decode cX11_init 44 = .ok (.iconst 2, 1) := dgX11_init_0 (44, (.iconst 2, 1)) (List.mem_of_getElem? (i := 24) rfl)
theorem dX11_init_45 : decode cX11_init 45 = .ok (.newarray .boolean, 2) := dgX11_init_0 (45, (.newarray .boolean, 2)) (List.mem_of_getElem? (i := 25) rfl)
theorem dX11_init_47 : decode cX11_init 47 = .ok (.putfield 20, 3) := dgX11_init_0 (47, (.putfield 20, 3)) (List.mem_of_getElem? (i := 26) rfl)
theorem dX11_init_50 : decode cX11_init 50 = .ok (.aload_n 0, 1) := dgX11_init_0 (50, (.aload_n 0, 1)) (List.mem_of_getElem? (i := 27) rfl)
theorem dX11_init_51 : decode cX11_init 51 = .ok (.new 24, 3) := dgX11_init_0 (51, (.new 24, 3)) (List.mem_of_getElem? (i := 28) rfl)
theorem dX11_init_54 : decode cX11_init 54 = .ok (.dup, 1) := dgX11_init_0 (54, (.dup, 1)) (List.mem_of_getElem? (i := 29) rfl)
theorem dX11_init_55 : decode cX11_init 55 = .ok (.aload_n 0, 1) := dgX11_init_0 (55, (.aload_n 0, 1)) (List.mem_of_getElem? (i := 30) rfl)
theorem dX11_init_56 : decode cX11_init 56 = .ok (.getfield 12, 3) := dgX11_init_0 (56, (.getfield 12, 3)) (List.mem_of_getElem? (i := 31) rfl)
theorem dX11_init_59 : decode cX11_init 59 = .ok (.invokespecial 26, 3) := dgX11_init_0 (59, (.invokespecial 26, 3)) (List.mem_of_getElem? (i := 32) rfl)
theorem dX11_init_62 : decode cX11_init 62 = .ok (.putfield 29, 3) := dgX11_init_0 (62, (.putfield 29, 3)) (List.mem_of_getElem? (i := 33) rfl)
theorem dX11_init_65 : decode cX11_init 65 = .ok (.aload_n 0, 1) := dgX11_init_0 (65, (.aload_n 0, 1)) (List.mem_of_getElem? (i := 34) rfl)
theorem dX11_init_66 : decode cX11_init 66 = .ok (.new 33, 3) := dgX11_init_0 (66, (.new 33, 3)) (List.mem_of_getElem? (i := 35) rfl)
theorem dX11_init_69 : decode cX11_init 69 = .ok (.dup, 1) := dgX11_init_0 (69, (.dup, 1)) (List.mem_of_getElem? (i := 36) rfl)
theorem dX11_init_70 : decode cX11_init 70 = .ok (.aload_n 0, 1) := dgX11_init_0 (70, (.aload_n 0, 1)) (List.mem_of_getElem? (i := 37) rfl)
theorem dX11_init_71 : decode cX11_init 71 = .ok (.getfield 12, 3) := dgX11_init_0 (71, (.getfield 12, 3)) (List.mem_of_getElem? (i := 38) rfl)
theorem dX11_init_74 : decode cX11_init 74 = .ok (.aload_n 0, 1) := dgX11_init_0 (74, (.aload_n 0, 1)) (List.mem_of_getElem? (i := 39) rfl)
theorem dgX11_init_1 : ∀ r ∈ ([(75, (.getfield 29, 3)), (78, (.invokespecial 35, 3)), (81, (.putfield 38, 3)), (84, (.aload_n 0, 1)), (85, (.new 42, 3)), (88, (.dup, 1)), (89, (.aload_n 0, 1)), (90, (.getfield 12, 3)), (93, (.aload_n 0, 1)), (94, (.getfield 29, 3)), (97, (.invokespecial 44, 3)), (100, (.putfield 45, 3)), (103, (.aload_n 0, 1)), (104, (.new 49, 3)), (107, (.dup, 1)), (108, (.aload_n 0, 1)), (109, (.getfield 12, 3)), (112, (.aload_n 0, 1)), (113, (.getfield 29, 3)), (116, (.invokespecial 51, 3)), (119, (.putfield 52, 3)), (122, (.aload_n 0, 1)), (123, (.new 56, 3)), (126, (.dup, 1)), (127, (.aload_n 0, 1)), (128, (.getfield 12, 3)), (131, (.aload_n 0, 1)), (132, (.getfield 29, 3)), (135, (.invokespecial 58, 3)), (138, (.putfield 59, 3)), (141, (.aload_n 0, 1)), (142, (.new 63, 3)), (145, (.dup, 1)), (146, (.invokespecial 65, 3)), (149, (.putfield 66, 3)), (152, (.aload_n 0, 1)), (153, (.sipush 400, 3)), (156, (.newarray .int, 2)), (158, (.putfield 70, 3)), (161, (.aload_n 0, 1))] : List (Nat × (Instr × Nat))), decode cX11_init r.1 = .ok r.2 := by decide +kernel
theorem dX11_init_75 : decode cX11_init 75 = .ok (.getfield 29, 3) := dgX11_init_1 (75, (.getfield 29, 3)) (List.mem_of_getElem? (i := 0) rfl)
theorem dX11_init_78 : decode cX11_init 78 = .ok (.invokespecial 35, 3) := dgX11_init_1 (78, (.invokespecial 35, 3)) (List.mem_of_getElem? (i := 1) rfl)
theorem dX11_init_81 : decode cX11_init 81 = .ok (.putfield 38, 3) := dgX11_init_1 (81, (.putfield 38, 3)) (List.mem_of_getElem? (i := 2) rfl)
theorem dX11_init_84 : decode cX11_init 84 = .ok (.aload_n 0, 1) := dgX11_init_1 (84, (.aload_n 0, 1)) (List.mem_of_getElem? (i := 3) rfl)
theorem dX11_init_85 : decode cX11_init 85 = .ok (.new 42, 3) := dgX11_init_1 (85, (.new 42, 3)) (List.mem_of_getElem? (i := 4) rfl)
theorem dX11_init_88 : decode cX11_init 88 = .ok (.dup, 1) := dgX11_init_1 (88, (.dup, 1)) (List.mem_of_getElem? (i := 5) rfl)
theorem dX11_init_89 : decode cX11_init 89 = .ok (.aload_n 0, 1) := dgX11_init_1 (89, (.aload_n 0, 1)) (List.mem_of_getElem? (i := 6) rfl)
theorem dX11_init_90 : decode cX11_init 90 = .ok (.getfield 12, 3) := dgX11_init_1 (90, (.getfield 12, 3)) (List.mem_of_getElem? (i := 7) rfl)
theorem dX11_init_93 : decode cX11_init 93 = .ok (.aload_n 0, 1) := dgX11_init_1 (93, (.aload_n 0, 1)) (List.mem_of_getElem? (i := 8) rfl)
theorem dX11_init_94 : decode cX11_init 94 = .ok (.getfield 29, 3) := dgX11_init_1 (94, (.getfield 29, 3)) (List.mem_of_getElem? (i := 9) rfl)
theorem dX11_init_97 : decode cX11_init 97 = .ok (.invokespecial 44, 3) := dgX11_init_1 (97, (.invokespecial 44, 3)) (List.mem_of_getElem? (i := 10) rfl)
theorem dX11_init_100 : decode cX11_init 100 = .ok (.putfield 45, 3) := dgX11_init_1 (100, (.putfield 45, 3)) (List.mem_of_getElem? (i := 11) rfl)
theorem dX11_init_103 : decode cX11_init 103 = .ok (.aload_n 0, 1) := dgX11_init_1 (103, (.aload_n 0, 1)) (List.mem_of_getElem? (i := 12) rfl)
theorem dX11_init_104 : decode cX11_init 104 = .ok (.new 49, 3) := dgX11_init_1 (104, (.new 49, 3)) (List.mem_of_getElem? (i := 13) rfl)
theorem dX11_init_107 : decode cX11_init 107 = .ok (.dup, 1) := dgX11_init_1 (107, (.dup, 1)) (List.mem_of_getElem? (i := 14) rfl)
theorem dX11_init_108 : decode cX11_init 108 = .ok (.aload_n 0, 1) := dgX11_init_1 (108, (.aload_n 0, 1)) (List.mem_of_getElem? (i := 15) rfl)
theorem dX11_init_109 : decode cX11_init 109 = .ok (.getfield 12, 3) := dgX11_init_1 (109, (.getfield 12, 3)) (List.mem_of_getElem? (i := 16) rfl)
theorem dX11_init_112 : decode cX11_init 112 = .ok (.aload_n 0, 1) := dgX11_init_1 (112, (.aload_n 0, 1)) (List.mem_of_getElem? (i := 17) rfl)
theorem dX11_init_113 : decode cX11_init 113 = .ok (.getfield 29, 3) := dgX11_init_1 (113, (.getfield 29, 3)) (List.mem_of_getElem? (i := 18) rfl)
theorem dX11_init_116 : decode cX11_init 116 = .ok (.invokespecial 51, 3) := dgX11_init_1 (116, (.invokespecial 51, 3)) (List.mem_of_getElem? (i := 19) rfl)
theorem dX11_init_119 : decode cX11_init 119 = .ok (.putfield 52, 3) := dgX11_init_1 (119, (.putfield 52, 3)) (List.mem_of_getElem? (i := 20) rfl)
theorem dX11_init_122 : decode cX11_init 122 = .ok (.aload_n 0, 1) := dgX11_init_1 (122, (.aload_n 0, 1)) (List.mem_of_getElem? (i := 21) rfl)
theorem dX11_init_123 : decode cX11_init 123 = .ok (.new 56, 3) := dgX11_init_1 (123, (.new 56, 3)) (List.mem_of_getElem? (i := 22) rfl)
theorem dX11_init_126 : decode cX11_init 126 = .ok (.dup, 1) := dgX11_init_1 (126, (.dup, 1)) (List.mem_of_getElem? (i := 23) rfl)
theorem dX11_init_127 : decode cX11_init 127 = .ok (.aload_n 0, 1) := dgX11_init_1 (127, (.aload_n 0, 1)) (List.mem_of_getElem? (i := 24) rfl)
theorem dX11_init_128 : decode cX11_init 128 = .ok (.getfield 12, 3) := dgX11_init_1 (128, (.getfield 12, 3)) (List.mem_of_getElem? (i := 25) rfl)
theorem dX11_init_131 : decode cX11_init 131 = .ok (.aload_n 0, 1) := dgX11_init_1 (131, (.aload_n 0, 1)) (List.mem_of_getElem? (i := 26) rfl)
theorem dX11_init_132 : decode cX11_init 132 = .ok (.getfield 29, 3) := dgX11_init_1 (132, (.getfield 29, 3)) (List.mem_of_getElem? (i := 27) rfl)
theorem dX11_init_135 : decode cX11_init 135 = .ok (.invokespecial 58, 3) := dgX11_init_1 (135, (.invokespecial 58, 3)) (List.mem_of_getElem? (i := 28) rfl)
theorem dX11_init_138 : decode cX11_init 138 = .ok (.putfield 59, 3) := dgX11_init_1 (138, (.putfield 59, 3)) (List.mem_of_getElem? (i := 29) rfl)
theorem dX11_init_141 : decode cX11_init 141 = .ok (.aload_n 0, 1) := dgX11_init_1 (141, (.aload_n 0, 1)) (List.mem_of_getElem? (i := 30) rfl)
theorem dX11_init_142 : decode cX11_init 142 = .ok (.new 63, 3) := dgX11_init_1 (142, (.new 63, 3)) (List.mem_of_getElem? (i := 31) rfl)
theorem dX11_init_145 : decode cX11_init 145 = .ok (.dup, 1) := dgX11_init_1 (145, (.dup, 1)) (List.mem_of_getElem? (i := 32) rfl)
theorem dX11_init_146 : decode cX11_init 146 = .ok (.invokespecial 65, 3) := dgX11_init_1 (146, (.invokespecial 65, 3)) (List.mem_of_getElem? (i := 33) rfl)
theorem dX11_init_149 : decode cX11_init 149 = .ok (.putfield 66, 3) := dgX11_init_1 (149, (.putfield 66, 3)) (List.mem_of_getElem? (i := 34) rfl)
theorem dX11_init_152 : decode cX11_init 152 = .ok (.aload_n 0, 1) := dgX11_init_1 (152, (.aload_n 0, 1)) (List.mem_of_getElem? (i := 35) rfl)
theorem dX11_init_153 : decode cX11_init 153 = .ok (.sipush 400, 3) := dgX11_init_1 (153, (.sipush 400, 3)) (List.mem_of_getElem? (i := 36) rfl)
theorem dX11_init_156 : decode cX11_init 156 = .ok (.newarray .int, 2) := dgX11_init_1 (156, (.newarray .int, 2)) (List.mem_of_getElem? (i := 37) rfl)
theorem dX11_init_158 : decode cX11_init 158 = .ok (.putfield 70, 3) := dgX11_init_1 (158, (.putfield 70, 3)) (List.mem_of_getElem? (i := 38) rfl)
theorem dX11_init_161 : decode cX11_init 161 = .ok (.aload_n 0, 1) := dgX11_init_1 (161, (.aload_n 0, 1)) (List.mem_of_getElem? (i := 39) rfl)
theorem dgX11_init_2 : ∀ r ∈ ([(162, (.iconst 0, 1)), (163, (.putfield 74, 3)), (166, (.aload_n 0, 1)), (167, (.iconst 0, 1)), (168, (.putfield 78, 3)), (171, (.aload_n 0, 1)), (172, (.iconst (-1), 1)), (173, (.putfield 81, 3)), (176, (.aload_n 0, 1)), (177, (.bipush 24, 2)), (179, (.newarray .int, 2)), (181, (.putfield 84, 3)), (184, (.aload_n 0, 1)), (185, (.iconst 0, 1)), (186, (.putfield 87, 3)), (189, (.aload_n 0, 1)), (190, (.iconst 5, 1)), (191, (.newarray .int, 2)), (193, (.putfield 91, 3)), (196, (.aload_n 0, 1)), (197, (.iconst 0, 1)), (198, (.putfield 94, 3)), (201, (.return_, 1))] : List (Nat × (Instr × Nat))), decode cX11_init r.1 = .ok r.2 := by decide +kernel
theorem dX11_init_162 : decode cX11_init 162 = .ok (.iconst 0, 1) := dgX11_init_2 (162, (.iconst 0, 1)) (List.mem_of_getElem? (i := 0) rfl)
theorem dX11_init_163 : decode cX11_init 163 = .ok (.putfield 74, 3) := dgX11_init_2 (163, (.putfield 74, 3)) (List.mem_of_getElem? (i := 1) rfl)
theorem dX11_init_166 : decode cX11_init 166 = .ok (.aload_n 0, 1) := dgX11_init_2 (166, (.aload_n 0, 1)) (List.mem_of_getElem? (i := 2) rfl)
theorem dX11_init_167 : decode cX11_init 167 = .ok (.iconst 0, 1) := dgX11_init_2 (167, (.iconst 0, 1)) (List.mem_of_getElem? (i := 3) rfl)
theorem dX11_init_168 : decode cX11_init 168 = .ok (.putfield 78, 3) := dgX11_init_2 (168, (.putfield 78, 3)) (List.mem_of_getElem? (i := 4) rfl)
theorem dX11_init_171 : decode cX11_init 171 = .ok (.aload_n 0, 1) := dgX11_init_2 (171, (.aload_n 0, 1)) (List.mem_of_getElem? (i := 5) rfl)
theorem dX11_init_172 : decode cX11_init 172 = .ok (.iconst (-1), 1) := dgX11_init_2 (172, (.iconst (-1), 1)) (List.mem_of_getElem? (i := 6) rfl)
theorem dX11_init_173 : decode cX11_init 173 = .ok (.putfield 81, 3) := dgX11_init_2 (173, (.putfield 81, 3)) (List.mem_of_getElem? (i := 7) rfl)
theorem dX11_init_176 : decode cX11_init 176 = .ok (.aload_n 0, 1) := dgX11_init_2 (176, (.aload_n 0, 1)) (List.mem_of_getElem? (i := 8) rfl)
theorem dX11_init_177 : decode cX11_init 177 = .ok (.bipush 24, 2) := dgX11_init_2 (177, (.bipush 24, 2)) (List.mem_of_getElem? (i := 9) rfl)
theorem dX11_init_179 : decode cX11_init 179 = .ok (.newarray .int, 2) := dgX11_init_2 (179, (.newarray .int, 2)) (List.mem_of_getElem? (i := 10) rfl)
theorem dX11_init_181 : decode cX11_init 181 = .ok (.putfield 84, 3) := dgX11_init_2 (181, (.putfield 84, 3)) (List.mem_of_getElem? (i := 11) rfl)
theorem dX11_init_184 : decode cX11_init 184 = .ok (.aload_n 0, 1) := dgX11_init_2 (184, (.aload_n 0, 1)) (List.mem_of_getElem? (i := 12) rfl)
theorem dX11_init_185 : decode cX11_init 185 = .ok (.iconst 0, 1) := dgX11_init_2 (185, (.iconst 0, 1)) (List.mem_of_getElem? (i := 13) rfl)
theorem dX11_init_186 : decode cX11_init 186 = .ok (.putfield 87, 3) := dgX11_init_2 (186, (.putfield 87, 3)) (List.mem_of_getElem? (i := 14) rfl)
theorem dX11_init_189 : decode cX11_init 189 = .ok (.aload_n 0, 1) := dgX11_init_2 (189, (.aload_n 0, 1)) (List.mem_of_getElem? (i := 15) rfl)
theorem dX11_init_190 : decode cX11_init 190 = .ok (.iconst 5, 1) := dgX11_init_2 (190, (.iconst 5, 1)) (List.mem_of_getElem? (i := 16) rfl)
theorem dX11_init_191 : decode cX11_init 191 = .ok (.newarray .int, 2) := dgX11_init_2 (191, (.newarray .int, 2)) (List.mem_of_getElem? (i := 17) rfl)
theorem dX11_init_193 : decode cX11_init 193 = .ok (.putfield 91, 3) := dgX11_init_2 (193, (.putfield 91, 3)) (List.mem_of_getElem? (i := 18) rfl)
theorem dX11_init_196 : decode cX11_init 196 = .ok (.aload_n 0, 1) := dgX11_init_2 (196, (.aload_n 0, 1)) (List.mem_of_getElem? (i := 19) rfl)
theorem dX11_init_197 : decode cX11_init 197 = .ok (.iconst 0, 1) := dgX11_init_2 (197, (.iconst 0, 1)) (List.mem_of_getElem? (i := 20) rfl)
theorem dX11_init_198 : decode cX11_init 198 = .ok (.putfield 94, 3) := dgX11_init_2 (198, (.putfield 94, 3)) (List.mem_of_getElem? (i := 21) rfl)
theorem dX11_init_201 : decode cX11_init 201 = .ok (.return_, 1) := dgX11_init_2 (201, (.return_, 1)) (List.mem_of_getElem? (i := 22) rfl)
