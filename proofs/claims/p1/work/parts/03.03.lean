set_option maxHeartbeats 4000000 in
set_option maxRecDepth 100000 in
theorem kX11_isOn_4 (l : Launch) (G : g5_G) (sz : Nat) (n0 : Int32) (h_n0 : 0 ≤ n0.toInt ∧ n0.toInt ≤ 62) : Met l yX11_isOn (wsG yX11_isOn cX11_isOn 3 (some .boolean)) ({ frames := 0, cells := 0, slots := 0, locals := 0 }) (va_Pc [.long 0, .int n0] (g5_P G [] sz)) (va_Qi (fun (r : Int32) (u : va_W) => ((r = 0) ∧ (u = []))) (g5_B G (va_A [] sz)) (va_A [] sz)) 0 0 (va_A [] sz) := by
  refine Met.ofW (cc := cX11_isOn) (maxL := 3) (ret := (some .boolean)) (by decide) rfl ?_
  intro p e s m args below meth c s₁ B hml hv
  obtain ⟨rfl, hsz, hP, hK, hD0, hN, hT⟩ := hv
  have hx := B.exec
  have hb := B.bytes
  have hr := B.returns
  have hts : ∀ w ∈ tblG, w.before _ s = true := fun w h => atoms_spec (ws := (wsG yX11_isOn cX11_isOn 3 (some .boolean))) B.pre w (List.mem_cons_of_mem _ h)
  have hown : s.vm.findClass RX11 = some m.cls := findClass_of_methodNamed B.named
  have hlocks := B.notSynchronized
  subst hsz
  have hD := hD0.self (sz := s.heap.size)
  generalize hAe : va_A [] s.heap.size = A at hD hT ⊢
  have hA : ∀ q : Nat, s.heap.size ≤ q → A q := fun q h => by rw [← hAe]; exact Or.inr h
  have hS : va_S A s.heap s.heap [] := va_S.rf
  have hP : va_P G.1 vwCl [] s.heap := hP
  have hl := lv_entry ([.long 0, .int n0]) (n := 3) (Nat.le_of_ble_eq_true rfl)
  rw [lg_entry_eq]
  generalize (lg_sl ([.long 0, .int n0]) ++ List.replicate (3 - (lg_sl ([.long 0, .int n0])).length) Slot.unset).toArray = ls at hl ⊢
  have hl : lv_has ls 3 [(0, .long 0), (2, .int n0)] := hl
  refine lv_lload_n hx hb dX11_isOn_0 rfl (lv_at hl 0 rfl) ?_
  refine lv_iload_n hx hb dX11_isOn_1 rfl (lv_at hl 1 rfl) ?_
  refine lv_lushr (v := 0) hx hb dX11_isOn_2 (g5_sh0 _) ?_
  refine lv_lconst (v := 1) hx hb dX11_isOn_3 (by decide) ?_
  refine lv_land hx hb dX11_isOn_4 ?_
  refine g5_tl (v := 0) (by decide) ?_
  refine lv_lconst (v := 0) hx hb dX11_isOn_5 (by decide) ?_
  refine W.lcmp hx hb dX11_isOn_6 ?_
  refine g5_ti (v := 0) (by decide) ?_
  refine lv_if_eq (tgt := 14) hx hb dX11_isOn_7 (by decide) (fun c_1 => ?_) (fun c_1 => ?_)
  ·
    refine lv_iconst (v := 0) hx hb dX11_isOn_14 (by decide) ?_
    exact W.zret (v := 0) hx hb hr rfl (fun t ht hW => ⟨⟨0, [], rfl, ⟨rfl, rfl⟩, by rw [ht]; exact hP, hD⟩, hS.F ht⟩) hS.2.2 dX11_isOn_15
  ·
    exact absurd c_1 (by decide)
set_option maxHeartbeats 4000000 in
set_option maxRecDepth 100000 in
theorem k_run3 (l : Launch) (G : g5_G) (a_42 a_1 a_46 a_13 a_9 a_43 a_2 a_3 a_5 a_7 a_11 a_10 : Nat) (sz : Nat) (p_c : Int32) (p_h : Int32) (e_length : Int32) (e_seen : Int32) (e_lastHour : Int32) (e_bright : Int32) (e_went : Int32) (e_met : Int32) (e_cell : Int32) (e_way : Int32) (e_hour : Int32) (f_p : Nat → Int32) (h_p_c : 0 ≤ p_c.toInt ∧ p_c.toInt ≤ 63) (h_p_h : 0 ≤ p_h.toInt ∧ p_h.toInt ≤ 23) : Met l yX5_run (wsG yX5_run cX5_run 9 none) ({ frames := 2, cells := 0, slots := 0, locals := 42 }) (va_Pc [.ref a_42, .int p_c, .int 3, .int p_h, .int 0] (g5_P G [(a_42, .inr (5, [.ref a_1, .ref a_43, .ref a_46, .int e_length, .int e_seen, .int e_lastHour, .int e_bright, .int e_went, .int e_met, .int e_cell, .int e_way, .int e_hour, .int 0])), (a_1, .inr (1, [.long 0, .int 1000, .int (-1), .int (-1), .int 0, .ref a_2, .ref a_3, .ref a_5, .ref a_7, .ref a_9, .ref a_11, .long 0, .ref a_13])), (a_46, .inl (G.2 0, 200, .inl f_p)), (a_13, .inl (G.2 1, 24, .inr (.inl (fun _ => 0)))), (a_9, .inr (6, [.int 8, .int 5, .ref a_10, .int 0]))] sz)) (va_Qv (fun (u : va_W) => (∃ (o_n : Int32) (o_l : Int32) (o_c : Int32) (o_f : Nat → Int32), (o_n.toInt = p_c.toInt % 8) ∧ (0 ≤ o_n.toInt ∧ o_n.toInt ≤ 7) ∧ ((o_n.toInt = 0 → o_l.toInt = -1) ∧ (0 < o_n.toInt → o_l.toInt = p_h.toInt)) ∧ (-1 ≤ o_l.toInt ∧ o_l.toInt ≤ 23) ∧ (0 ≤ o_c.toInt ∧ o_c.toInt ≤ 63) ∧ (∀ j : Nat, (j : Int) < o_n.toInt → (o_f j).toInt = p_h.toInt * 64 + (p_c.toInt - ((j : Int) + 1))) ∧ (u = [(a_42, .inr (5, [.ref a_1, .ref a_43, .ref a_46, .int o_n, .int (-1), .int o_l, .int 1000000, .int 0, .int e_met, .int o_c, .int 3, .int p_h, .int 0])), (a_1, .inr (1, [.long 0, .int 1000, .int (-1), .int (-1), .int 0, .ref a_2, .ref a_3, .ref a_5, .ref a_7, .ref a_9, .ref a_11, .long 0, .ref a_13])), (a_46, .inl (G.2 0, 200, .inl o_f)), (a_13, .inl (G.2 1, 24, .inr (.inl (fun _ => 0)))), (a_9, .inr (6, [.int 8, .int 5, .ref a_10, .int 0]))]))) (g5_B G (va_A [(a_42, .inr (5, [.ref a_1, .ref a_43, .ref a_46, .int e_length, .int e_seen, .int e_lastHour, .int e_bright, .int e_went, .int e_met, .int e_cell, .int e_way, .int e_hour, .int 0])), (a_1, .inr (1, [.long 0, .int 1000, .int (-1), .int (-1), .int 0, .ref a_2, .ref a_3, .ref a_5, .ref a_7, .ref a_9, .ref a_11, .long 0, .ref a_13])), (a_46, .inl (G.2 0, 200, .inl f_p)), (a_13, .inl (G.2 1, 24, .inr (.inl (fun _ => 0)))), (a_9, .inr (6, [.int 8, .int 5, .ref a_10, .int 0]))] sz)) (va_A [(a_42, .inr (5, [.ref a_1, .ref a_43, .ref a_46, .int e_length, .int e_seen, .int e_lastHour, .int e_bright, .int e_went, .int e_met, .int e_cell, .int e_way, .int e_hour, .int 0])), (a_1, .inr (1, [.long 0, .int 1000, .int (-1), .int (-1), .int 0, .ref a_2, .ref a_3, .ref a_5, .ref a_7, .ref a_9, .ref a_11, .long 0, .ref a_13])), (a_46, .inl (G.2 0, 200, .inl f_p)), (a_13, .inl (G.2 1, 24, .inr (.inl (fun _ => 0)))), (a_9, .inr (6, [.int 8, .int 5, .ref a_10, .int 0]))] sz)) 0 0 (va_A [(a_42, .inr (5, [.ref a_1, .ref a_43, .ref a_46, .int e_length, .int e_seen, .int e_lastHour, .int e_bright, .int e_went, .int e_met, .int e_cell, .int e_way, .int e_hour, .int 0])), (a_1, .inr (1, [.long 0, .int 1000, .int (-1), .int (-1), .int 0, .ref a_2, .ref a_3, .ref a_5, .ref a_7, .ref a_9, .ref a_11, .long 0, .ref a_13])), (a_46, .inl (G.2 0, 200, .inl f_p)), (a_13, .inl (G.2 1, 24, .inr (.inl (fun _ => 0)))), (a_9, .inr (6, [.int 8, .int 5, .ref a_10, .int 0]))] sz) := by
  refine Met.ofW (cc := cX5_run) (maxL := 9) (ret := none) (by decide) rfl ?_
  intro p e s m args below meth c s₁ B hml hv
  obtain ⟨rfl, hsz, hP, hK, hD0, hN, hT⟩ := hv
  have hx := B.exec
  have hb := B.bytes
  have hr := B.returns
  have hts : ∀ w ∈ tblG, w.before _ s = true := fun w h => atoms_spec (ws := (wsG yX5_run cX5_run 9 none)) B.pre w (List.mem_cons_of_mem _ h)
  have hown : s.vm.findClass RX5 = some m.cls := findClass_of_methodNamed B.named
  have hlocks := B.notSynchronized
  subst hsz
  have hD := hD0.self (sz := s.heap.size)
  generalize hAe : va_A [(a_42, .inr (5, [.ref a_1, .ref a_43, .ref a_46, .int e_length, .int e_seen, .int e_lastHour, .int e_bright, .int e_went, .int e_met, .int e_cell, .int e_way, .int e_hour, .int 0])), (a_1, .inr (1, [.long 0, .int 1000, .int (-1), .int (-1), .int 0, .ref a_2, .ref a_3, .ref a_5, .ref a_7, .ref a_9, .ref a_11, .long 0, .ref a_13])), (a_46, .inl (G.2 0, 200, .inl f_p)), (a_13, .inl (G.2 1, 24, .inr (.inl (fun _ => 0)))), (a_9, .inr (6, [.int 8, .int 5, .ref a_10, .int 0]))] s.heap.size = A at hD hT ⊢
  have hA : ∀ q : Nat, s.heap.size ≤ q → A q := fun q h => by rw [← hAe]; exact Or.inr h
  have hS : va_S A s.heap s.heap [] := va_S.rf
  have hP : va_P G.1 vwCl [(a_42, .inr (5, [.ref a_1, .ref a_43, .ref a_46, .int e_length, .int e_seen, .int e_lastHour, .int e_bright, .int e_went, .int e_met, .int e_cell, .int e_way, .int e_hour, .int 0])), (a_1, .inr (1, [.long 0, .int 1000, .int (-1), .int (-1), .int 0, .ref a_2, .ref a_3, .ref a_5, .ref a_7, .ref a_9, .ref a_11, .long 0, .ref a_13])), (a_46, .inl (G.2 0, 200, .inl f_p)), (a_13, .inl (G.2 1, 24, .inr (.inl (fun _ => 0)))), (a_9, .inr (6, [.int 8, .int 5, .ref a_10, .int 0]))] s.heap := hP
  have hl := lv_entry ([.ref a_42, .int p_c, .int 3, .int p_h, .int 0]) (n := 9) (Nat.le_of_ble_eq_true rfl)
  rw [lg_entry_eq]
  generalize (lg_sl ([.ref a_42, .int p_c, .int 3, .int p_h, .int 0]) ++ List.replicate (9 - (lg_sl ([.ref a_42, .int p_c, .int 3, .int p_h, .int 0])).length) Slot.unset).toArray = ls at hl ⊢
  have hl : lv_has ls 9 [(0, .ref a_42), (1, .int p_c), (2, .int 3), (3, .int p_h), (4, .int 0)] := hl
  refine lv_aload_n hx hb dX5_run_0 rfl (lv_at hl 0 rfl) ?_
  refine lv_iload_n hx hb dX5_run_1 rfl (lv_at hl 1 rfl) ?_
  refine va_put (D := G.1) (ci := 5) (v := .int p_c) (ty := .int) (C := RX5) (T := TX5) (N := 13) hx hb hts inG_X5 tyX5 tyX5_ok nmX5 hown hK hP hD hS 0 rfl rfl 9 (by decide) (hts _ fl_X5_26) (fun _ h9 => h9) rfl (by decide +kernel) rfl rfl (Nat.le_of_ble_eq_true rfl) dX5_run_2 (fun H locs hP hD hS => ?_)
  have hP : va_P G.1 vwCl [(a_42, .inr (5, [.ref a_1, .ref a_43, .ref a_46, .int e_length, .int e_seen, .int e_lastHour, .int e_bright, .int e_went, .int e_met, .int p_c, .int e_way, .int e_hour, .int 0])), (a_1, .inr (1, [.long 0, .int 1000, .int (-1), .int (-1), .int 0, .ref a_2, .ref a_3, .ref a_5, .ref a_7, .ref a_9, .ref a_11, .long 0, .ref a_13])), (a_46, .inl (G.2 0, 200, .inl f_p)), (a_13, .inl (G.2 1, 24, .inr (.inl (fun _ => 0)))), (a_9, .inr (6, [.int 8, .int 5, .ref a_10, .int 0]))] H := hP
  have hD : va_D A [(a_42, .inr (5, [.ref a_1, .ref a_43, .ref a_46, .int e_length, .int e_seen, .int e_lastHour, .int e_bright, .int e_went, .int e_met, .int p_c, .int e_way, .int e_hour, .int 0])), (a_1, .inr (1, [.long 0, .int 1000, .int (-1), .int (-1), .int 0, .ref a_2, .ref a_3, .ref a_5, .ref a_7, .ref a_9, .ref a_11, .long 0, .ref a_13])), (a_46, .inl (G.2 0, 200, .inl f_p)), (a_13, .inl (G.2 1, 24, .inr (.inl (fun _ => 0)))), (a_9, .inr (6, [.int 8, .int 5, .ref a_10, .int 0]))] := hD
  refine lv_aload_n hx hb dX5_run_5 rfl (lv_at hl 0 rfl) ?_
  refine lv_iload_n hx hb dX5_run_6 rfl (lv_at hl 2 rfl) ?_
  refine va_put (D := G.1) (ci := 5) (v := .int 3) (ty := .int) (C := RX5) (T := TX5) (N := 13) hx hb hts inG_X5 tyX5 tyX5_ok nmX5 hown hK hP hD hS 0 rfl rfl 10 (by decide) (hts _ fl_X5_30) (fun _ h9 => h9) rfl (by decide +kernel) rfl rfl (Nat.le_of_ble_eq_true rfl) dX5_run_7 (fun H locs hP hD hS => ?_)
  have hP : va_P G.1 vwCl [(a_42, .inr (5, [.ref a_1, .ref a_43, .ref a_46, .int e_length, .int e_seen, .int e_lastHour, .int e_bright, .int e_went, .int e_met, .int p_c, .int 3, .int e_hour, .int 0])), (a_1, .inr (1, [.long 0, .int 1000, .int (-1), .int (-1), .int 0, .ref a_2, .ref a_3, .ref a_5, .ref a_7, .ref a_9, .ref a_11, .long 0, .ref a_13])), (a_46, .inl (G.2 0, 200, .inl f_p)), (a_13, .inl (G.2 1, 24, .inr (.inl (fun _ => 0)))), (a_9, .inr (6, [.int 8, .int 5, .ref a_10, .int 0]))] H := hP
  have hD : va_D A [(a_42, .inr (5, [.ref a_1, .ref a_43, .ref a_46, .int e_length, .int e_seen, .int e_lastHour, .int e_bright, .int e_went, .int e_met, .int p_c, .int 3, .int e_hour, .int 0])), (a_1, .inr (1, [.long 0, .int 1000, .int (-1), .int (-1), .int 0, .ref a_2, .ref a_3, .ref a_5, .ref a_7, .ref a_9, .ref a_11, .long 0, .ref a_13])), (a_46, .inl (G.2 0, 200, .inl f_p)), (a_13, .inl (G.2 1, 24, .inr (.inl (fun _ => 0)))), (a_9, .inr (6, [.int 8, .int 5, .ref a_10, .int 0]))] := hD
  refine lv_aload_n hx hb dX5_run_10 rfl (lv_at hl 0 rfl) ?_
  refine lv_iload_n hx hb dX5_run_11 rfl (lv_at hl 3 rfl) ?_
  refine va_put (D := G.1) (ci := 5) (v := .int p_h) (ty := .int) (C := RX5) (T := TX5) (N := 13) hx hb hts inG_X5 tyX5 tyX5_ok nmX5 hown hK hP hD hS 0 rfl rfl 11 (by decide) (hts _ fl_X5_33) (fun _ h9 => h9) rfl (by decide +kernel) rfl rfl (Nat.le_of_ble_eq_true rfl) dX5_run_12 (fun H locs hP hD hS => ?_)
  have hP : va_P G.1 vwCl [(a_42, .inr (5, [.ref a_1, .ref a_43, .ref a_46, .int e_length, .int e_seen, .int e_lastHour, .int e_bright, .int e_went, .int e_met, .int p_c, .int 3, .int p_h, .int 0])), (a_1, .inr (1, [.long 0, .int 1000, .int (-1), .int (-1), .int 0, .ref a_2, .ref a_3, .ref a_5, .ref a_7, .ref a_9, .ref a_11, .long 0, .ref a_13])), (a_46, .inl (G.2 0, 200, .inl f_p)), (a_13, .inl (G.2 1, 24, .inr (.inl (fun _ => 0)))), (a_9, .inr (6, [.int 8, .int 5, .ref a_10, .int 0]))] H := hP
  have hD : va_D A [(a_42, .inr (5, [.ref a_1, .ref a_43, .ref a_46, .int e_length, .int e_seen, .int e_lastHour, .int e_bright, .int e_went, .int e_met, .int p_c, .int 3, .int p_h, .int 0])), (a_1, .inr (1, [.long 0, .int 1000, .int (-1), .int (-1), .int 0, .ref a_2, .ref a_3, .ref a_5, .ref a_7, .ref a_9, .ref a_11, .long 0, .ref a_13])), (a_46, .inl (G.2 0, 200, .inl f_p)), (a_13, .inl (G.2 1, 24, .inr (.inl (fun _ => 0)))), (a_9, .inr (6, [.int 8, .int 5, .ref a_10, .int 0]))] := hD
  refine lv_aload_n hx hb dX5_run_15 rfl (lv_at hl 0 rfl) ?_
  refine lv_iconst (v := 0) hx hb dX5_run_16 (by decide) ?_
  refine va_put (D := G.1) (ci := 5) (v := .int 0) (ty := .int) (C := RX5) (T := TX5) (N := 13) hx hb hts inG_X5 tyX5 tyX5_ok nmX5 hown hK hP hD hS 0 rfl rfl 3 (by decide) (hts _ fl_X5_36) (fun _ h9 => h9) rfl (by decide +kernel) rfl rfl (Nat.le_of_ble_eq_true rfl) dX5_run_17 (fun H locs hP hD hS => ?_)
  have hP : va_P G.1 vwCl [(a_42, .inr (5, [.ref a_1, .ref a_43, .ref a_46, .int 0, .int e_seen, .int e_lastHour, .int e_bright, .int e_went, .int e_met, .int p_c, .int 3, .int p_h, .int 0])), (a_1, .inr (1, [.long 0, .int 1000, .int (-1), .int (-1), .int 0, .ref a_2, .ref a_3, .ref a_5, .ref a_7, .ref a_9, .ref a_11, .long 0, .ref a_13])), (a_46, .inl (G.2 0, 200, .inl f_p)), (a_13, .inl (G.2 1, 24, .inr (.inl (fun _ => 0)))), (a_9, .inr (6, [.int 8, .int 5, .ref a_10, .int 0]))] H := hP
  have hD : va_D A [(a_42, .inr (5, [.ref a_1, .ref a_43, .ref a_46, .int 0, .int e_seen, .int e_lastHour, .int e_bright, .int e_went, .int e_met, .int p_c, .int 3, .int p_h, .int 0])), (a_1, .inr (1, [.long 0, .int 1000, .int (-1), .int (-1), .int 0, .ref a_2, .ref a_3, .ref a_5, .ref a_7, .ref a_9, .ref a_11, .long 0, .ref a_13])), (a_46, .inl (G.2 0, 200, .inl f_p)), (a_13, .inl (G.2 1, 24, .inr (.inl (fun _ => 0)))), (a_9, .inr (6, [.int 8, .int 5, .ref a_10, .int 0]))] := hD
  refine lv_aload_n hx hb dX5_run_20 rfl (lv_at hl 0 rfl) ?_
  refine lv_iconst (v := (-1)) hx hb dX5_run_21 (by decide) ?_
  refine va_put (D := G.1) (ci := 5) (v := .int (-1)) (ty := .int) (C := RX5) (T := TX5) (N := 13) hx hb hts inG_X5 tyX5 tyX5_ok nmX5 hown hK hP hD hS 0 rfl rfl 4 (by decide) (hts _ fl_X5_39) (fun _ h9 => h9) rfl (by decide +kernel) rfl rfl (Nat.le_of_ble_eq_true rfl) dX5_run_22 (fun H locs hP hD hS => ?_)
  have hP : va_P G.1 vwCl [(a_42, .inr (5, [.ref a_1, .ref a_43, .ref a_46, .int 0, .int (-1), .int e_lastHour, .int e_bright, .int e_went, .int e_met, .int p_c, .int 3, .int p_h, .int 0])), (a_1, .inr (1, [.long 0, .int 1000, .int (-1), .int (-1), .int 0, .ref a_2, .ref a_3, .ref a_5, .ref a_7, .ref a_9, .ref a_11, .long 0, .ref a_13])), (a_46, .inl (G.2 0, 200, .inl f_p)), (a_13, .inl (G.2 1, 24, .inr (.inl (fun _ => 0)))), (a_9, .inr (6, [.int 8, .int 5, .ref a_10, .int 0]))] H := hP
  have hD : va_D A [(a_42, .inr (5, [.ref a_1, .ref a_43, .ref a_46, .int 0, .int (-1), .int e_lastHour, .int e_bright, .int e_went, .int e_met, .int p_c, .int 3, .int p_h, .int 0])), (a_1, .inr (1, [.long 0, .int 1000, .int (-1), .int (-1), .int 0, .ref a_2, .ref a_3, .ref a_5, .ref a_7, .ref a_9, .ref a_11, .long 0, .ref a_13])), (a_46, .inl (G.2 0, 200, .inl f_p)), (a_13, .inl (G.2 1, 24, .inr (.inl (fun _ => 0)))), (a_9, .inr (6, [.int 8, .int 5, .ref a_10, .int 0]))] := hD
  refine lv_aload_n hx hb dX5_run_25 rfl (lv_at hl 0 rfl) ?_
  refine lv_iconst (v := (-1)) hx hb dX5_run_26 (by decide) ?_
  refine va_put (D := G.1) (ci := 5) (v := .int (-1)) (ty := .int) (C := RX5) (T := TX5) (N := 13) hx hb hts inG_X5 tyX5 tyX5_ok nmX5 hown hK hP hD hS 0 rfl rfl 5 (by decide) (hts _ fl_X5_42) (fun _ h9 => h9) rfl (by decide +kernel) rfl rfl (Nat.le_of_ble_eq_true rfl) dX5_run_27 (fun H locs hP hD hS => ?_)
  have hP : va_P G.1 vwCl [(a_42, .inr (5, [.ref a_1, .ref a_43, .ref a_46, .int 0, .int (-1), .int (-1), .int e_bright, .int e_went, .int e_met, .int p_c, .int 3, .int p_h, .int 0])), (a_1, .inr (1, [.long 0, .int 1000, .int (-1), .int (-1), .int 0, .ref a_2, .ref a_3, .ref a_5, .ref a_7, .ref a_9, .ref a_11, .long 0, .ref a_13])), (a_46, .inl (G.2 0, 200, .inl f_p)), (a_13, .inl (G.2 1, 24, .inr (.inl (fun _ => 0)))), (a_9, .inr (6, [.int 8, .int 5, .ref a_10, .int 0]))] H := hP
  have hD : va_D A [(a_42, .inr (5, [.ref a_1, .ref a_43, .ref a_46, .int 0, .int (-1), .int (-1), .int e_bright, .int e_went, .int e_met, .int p_c, .int 3, .int p_h, .int 0])), (a_1, .inr (1, [.long 0, .int 1000, .int (-1), .int (-1), .int 0, .ref a_2, .ref a_3, .ref a_5, .ref a_7, .ref a_9, .ref a_11, .long 0, .ref a_13])), (a_46, .inl (G.2 0, 200, .inl f_p)), (a_13, .inl (G.2 1, 24, .inr (.inl (fun _ => 0)))), (a_9, .inr (6, [.int 8, .int 5, .ref a_10, .int 0]))] := hD
  refine lv_aload_n hx hb dX5_run_30 rfl (lv_at hl 0 rfl) ?_
  refine lv_ldc (v := 1000000) hx hb hown (hts _ ki_X5_45) dX5_run_31 ?_
  refine va_put (D := G.1) (ci := 5) (v := .int 1000000) (ty := .int) (C := RX5) (T := TX5) (N := 13) hx hb hts inG_X5 tyX5 tyX5_ok nmX5 hown hK hP hD hS 0 rfl rfl 6 (by decide) (hts _ fl_X5_46) (fun _ h9 => h9) rfl (by decide +kernel) rfl rfl (Nat.le_of_ble_eq_true rfl) dX5_run_33 (fun H locs hP hD hS => ?_)
  have hP : va_P G.1 vwCl [(a_42, .inr (5, [.ref a_1, .ref a_43, .ref a_46, .int 0, .int (-1), .int (-1), .int 1000000, .int e_went, .int e_met, .int p_c, .int 3, .int p_h, .int 0])), (a_1, .inr (1, [.long 0, .int 1000, .int (-1), .int (-1), .int 0, .ref a_2, .ref a_3, .ref a_5, .ref a_7, .ref a_9, .ref a_11, .long 0, .ref a_13])), (a_46, .inl (G.2 0, 200, .inl f_p)), (a_13, .inl (G.2 1, 24, .inr (.inl (fun _ => 0)))), (a_9, .inr (6, [.int 8, .int 5, .ref a_10, .int 0]))] H := hP
  have hD : va_D A [(a_42, .inr (5, [.ref a_1, .ref a_43, .ref a_46, .int 0, .int (-1), .int (-1), .int 1000000, .int e_went, .int e_met, .int p_c, .int 3, .int p_h, .int 0])), (a_1, .inr (1, [.long 0, .int 1000, .int (-1), .int (-1), .int 0, .ref a_2, .ref a_3, .ref a_5, .ref a_7, .ref a_9, .ref a_11, .long 0, .ref a_13])), (a_46, .inl (G.2 0, 200, .inl f_p)), (a_13, .inl (G.2 1, 24, .inr (.inl (fun _ => 0)))), (a_9, .inr (6, [.int 8, .int 5, .ref a_10, .int 0]))] := hD
  refine lv_aload_n hx hb dX5_run_36 rfl (lv_at hl 0 rfl) ?_
  refine lv_iconst (v := 0) hx hb dX5_run_37 (by decide) ?_
  refine va_put (D := G.1) (ci := 5) (v := .int 0) (ty := .int) (C := RX5) (T := TX5) (N := 13) hx hb hts inG_X5 tyX5 tyX5_ok nmX5 hown hK hP hD hS 0 rfl rfl 7 (by decide) (hts _ fl_X5_49) (fun _ h9 => h9) rfl (by decide +kernel) rfl rfl (Nat.le_of_ble_eq_true rfl) dX5_run_38 (fun H locs hP hD hS => ?_)
  have hP : va_P G.1 vwCl [(a_42, .inr (5, [.ref a_1, .ref a_43, .ref a_46, .int 0, .int (-1), .int (-1), .int 1000000, .int 0, .int e_met, .int p_c, .int 3, .int p_h, .int 0])), (a_1, .inr (1, [.long 0, .int 1000, .int (-1), .int (-1), .int 0, .ref a_2, .ref a_3, .ref a_5, .ref a_7, .ref a_9, .ref a_11, .long 0, .ref a_13])), (a_46, .inl (G.2 0, 200, .inl f_p)), (a_13, .inl (G.2 1, 24, .inr (.inl (fun _ => 0)))), (a_9, .inr (6, [.int 8, .int 5, .ref a_10, .int 0]))] H := hP
  have hD : va_D A [(a_42, .inr (5, [.ref a_1, .ref a_43, .ref a_46, .int 0, .int (-1), .int (-1), .int 1000000, .int 0, .int e_met, .int p_c, .int 3, .int p_h, .int 0])), (a_1, .inr (1, [.long 0, .int 1000, .int (-1), .int (-1), .int 0, .ref a_2, .ref a_3, .ref a_5, .ref a_7, .ref a_9, .ref a_11, .long 0, .ref a_13])), (a_46, .inl (G.2 0, 200, .inl f_p)), (a_13, .inl (G.2 1, 24, .inr (.inl (fun _ => 0)))), (a_9, .inr (6, [.int 8, .int 5, .ref a_10, .int 0]))] := hD
  refine lv_aload_n hx hb dX5_run_41 rfl (lv_at hl 0 rfl) ?_
  refine lv_iload_n hx hb dX5_run_42 rfl (lv_at hl 1 rfl) ?_
  refine lv_iload_n hx hb dX5_run_43 rfl (lv_at hl 2 rfl) ?_
  refine lv_iload_n hx hb dX5_run_44 rfl (lv_at hl 3 rfl) ?_
  have hPc := hP.sub (ws' := []) [] rfl
  have hDc := hD.sub (ws' := []) [] (by decide) rfl
  have hFc := va_free (wc := []) hD hS hA [] rfl
  refine va_calli (va_runSN (As := [.int p_c, .int 3, .int p_h]) (rest := [.ref a_42]) ⟨hx, hb, hml, hown, hts⟩ (kX11_isLook_4 l G H.size p_c p_h ⟨by omega, by omega⟩ ⟨by omega, by omega⟩) ⟨va_cnB 3 hts gW_X11_isLook rfl rfl rfl (hN.1 _ g5_nw_X5_52) (hts _ ini_X11) hs_X11_isLook ⟨Nat.le_of_ble_eq_true rfl, Nat.le_of_ble_eq_true rfl⟩, hts _ st_X11_isLook, trivial⟩ (g5_preS hPc hK hDc hN hT hS hFc) rfl rfl hl.1 rfl (lv_room (Nat.le_of_ble_eq_true rfl)) dX5_run_45 ⟨Nat.le_of_ble_eq_true rfl, Nat.le_of_ble_eq_true rfl⟩) hS (fun q _ h => hFc q h) hFc (fun r u t H1 locs ht hvm hw hB hz1 hk1 hS => ?_)
  obtain ⟨hP1, hD1⟩ := hB
  rw [ht] at hP1
  obtain ⟨i_1, i_2, i_3, i_4, rfl, rfl⟩ := hw
  have hP := g5_same hP hk1
  generalize H1 = H at hP hS ⊢
  refine lv_if_ne (tgt := 55) hx hb dX5_run_48 (by decide) (fun c_5 => ?_) (fun c_5 => ?_)
  ·
    refine lv_iconst (v := 0) hx hb dX5_run_55 (by decide) ?_
    refine va_put (D := G.1) (ci := 5) (v := .int 0) (ty := .boolean) (C := RX5) (T := TX5) (N := 13) hx hb hts inG_X5 tyX5 tyX5_ok nmX5 hown hK hP hD hS 0 rfl rfl 12 (by decide) (hts _ fl_X5_56) (fun _ h9 => h9) rfl (by decide +kernel) rfl rfl (Nat.le_of_ble_eq_true rfl) dX5_run_56 (fun H locs hP hD hS => ?_)
    have hP : va_P G.1 vwCl [(a_42, .inr (5, [.ref a_1, .ref a_43, .ref a_46, .int 0, .int (-1), .int (-1), .int 1000000, .int 0, .int e_met, .int p_c, .int 3, .int p_h, .int 0])), (a_1, .inr (1, [.long 0, .int 1000, .int (-1), .int (-1), .int 0, .ref a_2, .ref a_3, .ref a_5, .ref a_7, .ref a_9, .ref a_11, .long 0, .ref a_13])), (a_46, .inl (G.2 0, 200, .inl f_p)), (a_13, .inl (G.2 1, 24, .inr (.inl (fun _ => 0)))), (a_9, .inr (6, [.int 8, .int 5, .ref a_10, .int 0]))] H := hP
    have hD : va_D A [(a_42, .inr (5, [.ref a_1, .ref a_43, .ref a_46, .int 0, .int (-1), .int (-1), .int 1000000, .int 0, .int e_met, .int p_c, .int 3, .int p_h, .int 0])), (a_1, .inr (1, [.long 0, .int 1000, .int (-1), .int (-1), .int 0, .ref a_2, .ref a_3, .ref a_5, .ref a_7, .ref a_9, .ref a_11, .long 0, .ref a_13])), (a_46, .inl (G.2 0, 200, .inl f_p)), (a_13, .inl (G.2 1, 24, .inr (.inl (fun _ => 0)))), (a_9, .inr (6, [.int 8, .int 5, .ref a_10, .int 0]))] := hD
    refine lv_aload_n hx hb dX5_run_59 rfl (lv_at hl 0 rfl) ?_
    refine va_get (D := G.1) (ci := 5) (v := .ref a_1) (C := RX5) (T := TX5) (N := 13) hx hb hts inG_X5 hown hK hP 0 rfl rfl 0 (by decide) (hts _ fl_X5_22) (fun _ h9 => h9) rfl dX5_run_60 ?_
    refine va_get (D := G.1) (ci := 1) (v := .long 0) (C := RX1) (T := TX1) (N := 13) hx hb hts inG_X1 hown hK hP 1 rfl rfl 11 (by decide) (hts _ fl_X5_60) (fun _ h9 => h9) rfl dX5_run_63 ?_
    refine lv_aload_n hx hb dX5_run_66 rfl (lv_at hl 0 rfl) ?_
    refine lv_iload hx hb dX5_run_67 (lv_at hl 4 rfl) ?_
    have hPc := hP.sub (ws' := [(a_42, .inr (5, [.ref a_1, .ref a_43, .ref a_46, .int 0, .int (-1), .int (-1), .int 1000000, .int 0, .int e_met, .int p_c, .int 3, .int p_h, .int 0]))]) [0] rfl
    have hDc := hD.sub (ws' := [(a_42, .inr (5, [.ref a_1, .ref a_43, .ref a_46, .int 0, .int (-1), .int (-1), .int 1000000, .int 0, .int e_met, .int p_c, .int 3, .int p_h, .int 0]))]) [0] (by decide) rfl
    have hFc := va_free (wc := [(a_42, .inr (5, [.ref a_1, .ref a_43, .ref a_46, .int 0, .int (-1), .int (-1), .int 1000000, .int 0, .int e_met, .int p_c, .int 3, .int p_h, .int 0]))]) hD hS hA [0] rfl
    refine va_calll (va_runV (As := [.int 0]) (rest := [.long 0]) ⟨hx, hb, hml, hown, hts⟩ (kX5_hungBoard_4 l G a_42 a_1 a_43 a_46 H.size e_met p_c p_h ⟨by omega, by omega⟩ ⟨by omega, by omega⟩) (cwV 1 hts gV_X5_66 rfl rfl rfl hv_X5_hungBoard ⟨Nat.le_of_ble_eq_true rfl, Nat.le_of_ble_eq_true rfl⟩) (g5_preV hPc hK hDc hN hT hS hFc (ci := 5) (q0 := 0) rfl rfl) rfl rfl hl.1 rfl (lv_room (Nat.le_of_ble_eq_true rfl)) dX5_run_69 ⟨Nat.le_of_ble_eq_true rfl, Nat.le_of_ble_eq_true rfl⟩) hS (fun q _ h => hFc q h) hFc (fun r u t H1 locs ht hvm hw hB hz1 hk1 hS => ?_)
    obtain ⟨hP1, hD1⟩ := hB
    rw [ht] at hP1
    obtain ⟨rfl, rfl⟩ := hw
    obtain ⟨hP, hD⟩ := va_join (wr := [(a_1, .inr (1, [.long 0, .int 1000, .int (-1), .int (-1), .int 0, .ref a_2, .ref a_3, .ref a_5, .ref a_7, .ref a_9, .ref a_11, .long 0, .ref a_13])), (a_46, .inl (G.2 0, 200, .inl f_p)), (a_13, .inl (G.2 1, 24, .inr (.inl (fun _ => 0)))), (a_9, .inr (6, [.int 8, .int 5, .ref a_10, .int 0]))]) (w1 := [(a_42, .inr (5, [.ref a_1, .ref a_43, .ref a_46, .int 0, .int (-1), .int (-1), .int 1000000, .int 0, .int e_met, .int p_c, .int 3, .int p_h, .int 0]))]) hP hD [0] [1, 2, 3, 4] rfl rfl (by decide) (by decide) hk1 hFc hP1 hD1
    generalize H1 = H at hP hS ⊢
    have hP : va_P G.1 vwCl [(a_1, .inr (1, [.long 0, .int 1000, .int (-1), .int (-1), .int 0, .ref a_2, .ref a_3, .ref a_5, .ref a_7, .ref a_9, .ref a_11, .long 0, .ref a_13])), (a_46, .inl (G.2 0, 200, .inl f_p)), (a_13, .inl (G.2 1, 24, .inr (.inl (fun _ => 0)))), (a_9, .inr (6, [.int 8, .int 5, .ref a_10, .int 0])), (a_42, .inr (5, [.ref a_1, .ref a_43, .ref a_46, .int 0, .int (-1), .int (-1), .int 1000000, .int 0, .int e_met, .int p_c, .int 3, .int p_h, .int 0]))] H := hP
    have hD : va_D A [(a_1, .inr (1, [.long 0, .int 1000, .int (-1), .int (-1), .int 0, .ref a_2, .ref a_3, .ref a_5, .ref a_7, .ref a_9, .ref a_11, .long 0, .ref a_13])), (a_46, .inl (G.2 0, 200, .inl f_p)), (a_13, .inl (G.2 1, 24, .inr (.inl (fun _ => 0)))), (a_9, .inr (6, [.int 8, .int 5, .ref a_10, .int 0])), (a_42, .inr (5, [.ref a_1, .ref a_43, .ref a_46, .int 0, .int (-1), .int (-1), .int 1000000, .int 0, .int e_met, .int p_c, .int 3, .int p_h, .int 0]))] := hD
    refine lv_lor hx hb dX5_run_72 ?_
    refine g5_tl (v := 0) (by decide) ?_
    refine lv_lstore (lv' := [(5, .long 0), (0, .ref a_42), (1, .int p_c), (2, .int 3), (3, .int p_h), (4, .int 0)]) hx hb dX5_run_73 hl (by decide) rfl (fun ls hl => ?_)
    refine lv_iconst (v := 0) hx hb dX5_run_75 (by decide) ?_
    refine lv_istore (lv' := [(7, .int 0), (5, .long 0), (0, .ref a_42), (1, .int p_c), (2, .int 3), (3, .int p_h), (4, .int 0)]) hx hb dX5_run_76 hl (by decide) rfl (fun ls hl => ?_)
    refine g5_loop (α := (Int32) × (Int32) × (Int32) × (Int32) × (Nat → Int32)) (fun (q : (Int32) × (Int32) × (Int32) × (Int32) × (Nat → Int32)) (ls : Array Slot) (H : Heap) (locs : List Loc) => match q with | (k_s, k_n, k_l, k_c, k_f) => lv_has ls 9 [(7, .int k_s), (5, .long 0), (0, .ref a_42), (1, .int p_c), (2, .int 3), (3, .int p_h)] ∧ va_P G.1 vwCl [(a_1, .inr (1, [.long 0, .int 1000, .int (-1), .int (-1), .int 0, .ref a_2, .ref a_3, .ref a_5, .ref a_7, .ref a_9, .ref a_11, .long 0, .ref a_13])), (a_46, .inl (G.2 0, 200, .inl k_f)), (a_13, .inl (G.2 1, 24, .inr (.inl (fun _ => 0)))), (a_9, .inr (6, [.int 8, .int 5, .ref a_10, .int 0])), (a_42, .inr (5, [.ref a_1, .ref a_43, .ref a_46, .int k_n, .int (-1), .int k_l, .int 1000000, .int 0, .int e_met, .int k_c, .int 3, .int p_h, .int 0]))] H ∧ va_D A [(a_1, .inr (1, [.long 0, .int 1000, .int (-1), .int (-1), .int 0, .ref a_2, .ref a_3, .ref a_5, .ref a_7, .ref a_9, .ref a_11, .long 0, .ref a_13])), (a_46, .inl (G.2 0, 200, .inl k_f)), (a_13, .inl (G.2 1, 24, .inr (.inl (fun _ => 0)))), (a_9, .inr (6, [.int 8, .int 5, .ref a_10, .int 0])), (a_42, .inr (5, [.ref a_1, .ref a_43, .ref a_46, .int k_n, .int (-1), .int k_l, .int 1000000, .int 0, .int e_met, .int k_c, .int 3, .int p_h, .int 0]))] ∧ va_S A s.heap H locs ∧ (0 ≤ k_s.toInt ∧ k_s.toInt ≤ 7) ∧ (0 ≤ k_n.toInt ∧ k_n.toInt ≤ 7) ∧ ((-1) ≤ k_l.toInt ∧ k_l.toInt ≤ 23) ∧ (0 ≤ k_c.toInt ∧ k_c.toInt ≤ 63) ∧ (k_n.toInt = k_s.toInt) ∧ (k_s.toInt ≤ p_c.toInt % 8) ∧ (k_c.toInt = p_c.toInt - k_s.toInt) ∧ ((k_s.toInt = 0 → k_l.toInt = -1) ∧ (0 < k_s.toInt → k_l.toInt = p_h.toInt)) ∧ (∀ j : Nat, (j : Int) < k_s.toInt → (k_f j).toInt = p_h.toInt * 64 + (p_c.toInt - ((j : Int) + 1)))) (fun (q : (Int32) × (Int32) × (Int32) × (Int32) × (Nat → Int32)) => match q with | (k_s, k_n, k_l, k_c, k_f) => Int.toNat (200 - k_s.toInt)) (0, 0, (-1), p_c, f_p) ⟨lv_sub hl [0, 1, 2, 3, 4, 5] rfl, hP, hD, hS, ⟨by decide, by decide⟩, ⟨by decide, by decide⟩, ⟨by decide, by decide⟩, ⟨by omega, by omega⟩, rfl, by have z0 : (0 : Int32).toInt = 0 := (by decide); omega, by have z0 : (0 : Int32).toInt = 0 := (by decide); omega, ⟨fun _ => by decide, fun h => absurd h (by decide)⟩, fun j h => absurd h (by have z : (0 : Int32).toInt = 0 := (by decide); omega)⟩ ?_
    rintro ⟨k_s, k_n, k_l, k_c, k_f⟩ ls H locs ⟨hl, hP, hD, hS, i_6, i_7, i_8, i_9, i_10, i_11, i_12, i_13, i_14⟩ ih_78_15
    have hl : lv_has ls 9 [(7, .int k_s), (5, .long 0), (0, .ref a_42), (1, .int p_c), (2, .int 3), (3, .int p_h)] := hl
    have i_6 : 0 ≤ k_s.toInt ∧ k_s.toInt ≤ 7 := i_6
    have i_7 : 0 ≤ k_n.toInt ∧ k_n.toInt ≤ 7 := i_7
    have i_8 : (-1) ≤ k_l.toInt ∧ k_l.toInt ≤ 23 := i_8
    have i_9 : 0 ≤ k_c.toInt ∧ k_c.toInt ≤ 63 := i_9
    have i_10 : k_n.toInt = k_s.toInt := i_10
    have i_11 : k_s.toInt ≤ p_c.toInt % 8 := i_11
    have i_12 : k_c.toInt = p_c.toInt - k_s.toInt := i_12
    have i_13 : (k_s.toInt = 0 → k_l.toInt = -1) ∧ (0 < k_s.toInt → k_l.toInt = p_h.toInt) := i_13
    have i_14 : ∀ j : Nat, (j : Int) < k_s.toInt → (k_f j).toInt = p_h.toInt * 64 + (p_c.toInt - ((j : Int) + 1)) := i_14
    have hP : va_P G.1 vwCl [(a_1, .inr (1, [.long 0, .int 1000, .int (-1), .int (-1), .int 0, .ref a_2, .ref a_3, .ref a_5, .ref a_7, .ref a_9, .ref a_11, .long 0, .ref a_13])), (a_46, .inl (G.2 0, 200, .inl k_f)), (a_13, .inl (G.2 1, 24, .inr (.inl (fun _ => 0)))), (a_9, .inr (6, [.int 8, .int 5, .ref a_10, .int 0])), (a_42, .inr (5, [.ref a_1, .ref a_43, .ref a_46, .int k_n, .int (-1), .int k_l, .int 1000000, .int 0, .int e_met, .int k_c, .int 3, .int p_h, .int 0]))] H := hP
    have hD : va_D A [(a_1, .inr (1, [.long 0, .int 1000, .int (-1), .int (-1), .int 0, .ref a_2, .ref a_3, .ref a_5, .ref a_7, .ref a_9, .ref a_11, .long 0, .ref a_13])), (a_46, .inl (G.2 0, 200, .inl k_f)), (a_13, .inl (G.2 1, 24, .inr (.inl (fun _ => 0)))), (a_9, .inr (6, [.int 8, .int 5, .ref a_10, .int 0])), (a_42, .inr (5, [.ref a_1, .ref a_43, .ref a_46, .int k_n, .int (-1), .int k_l, .int 1000000, .int 0, .int e_met, .int k_c, .int 3, .int p_h, .int 0]))] := hD
    refine lv_iload hx hb dX5_run_78 (lv_at hl 0 rfl) ?_
    refine lv_sipush (v := 200) hx hb dX5_run_80 (by decide) ?_
    refine lv_icmp_ge (tgt := 227) hx hb dX5_run_83 (by decide) (fun c_16 => ?_) (fun c_16 => ?_)
    ·
      have i_16 : k_s.toInt ≥ 200 := by have z := g5_ge (a := k_s.toInt) (b := 200) (by rfl) (by decide) c_16; omega
      omega
    ·
      have i_16 : k_s.toInt < 200 := by have z := g5_geN (a := k_s.toInt) (b := 200) (by rfl) (by decide) c_16; omega
      refine lv_aload_n hx hb dX5_run_86 rfl (lv_at hl 2 rfl) ?_
      refine va_get (D := G.1) (ci := 5) (v := .int 0) (C := RX5) (T := TX5) (N := 13) hx hb hts inG_X5 hown hK hP 4 rfl rfl 12 (by decide) (hts _ fl_X5_56) (fun _ h9 => h9) rfl dX5_run_87 ?_
      refine lv_if_ne (tgt := 227) hx hb dX5_run_90 (by decide) (fun c_17 => ?_) (fun c_17 => ?_)
      ·
        exact absurd c_17 (by decide)
      ·
        refine lv_aload_n hx hb dX5_run_93 rfl (lv_at hl 2 rfl) ?_
        refine va_get (D := G.1) (ci := 5) (v := .int k_c) (C := RX5) (T := TX5) (N := 13) hx hb hts inG_X5 hown hK hP 4 rfl rfl 9 (by decide) (hts _ fl_X5_26) (fun _ h9 => h9) rfl dX5_run_94 ?_
        refine lv_aload_n hx hb dX5_run_97 rfl (lv_at hl 2 rfl) ?_
        refine va_get (D := G.1) (ci := 5) (v := .int 3) (C := RX5) (T := TX5) (N := 13) hx hb hts inG_X5 hown hK hP 4 rfl rfl 10 (by decide) (hts _ fl_X5_30) (fun _ h9 => h9) rfl dX5_run_98 ?_
        have hPc := hP.sub (ws' := []) [] rfl
        have hDc := hD.sub (ws' := []) [] (by decide) rfl
        have hFc := va_free (wc := []) hD hS hA [] rfl
        refine va_calli (va_runSN (As := [.int k_c, .int 3]) (rest := []) ⟨hx, hb, hml, hown, hts⟩ (kX11_beside_4 l G H.size k_c ⟨by omega, by omega⟩) ⟨va_cnB 2 hts gW_X11_beside rfl rfl rfl (hN.1 _ g5_nw_X5_70) (hts _ ini_X11) hs_X11_beside ⟨Nat.le_of_ble_eq_true rfl, Nat.le_of_ble_eq_true rfl⟩, hts _ st_X11_beside, trivial⟩ (g5_preS hPc hK hDc hN hT hS hFc) rfl rfl hl.1 rfl (lv_room (Nat.le_of_ble_eq_true rfl)) dX5_run_101 ⟨Nat.le_of_ble_eq_true rfl, Nat.le_of_ble_eq_true rfl⟩) hS (fun q _ h => hFc q h) hFc (fun r u t H1 locs ht hvm hw hB hz1 hk1 hS => ?_)
        obtain ⟨hP1, hD1⟩ := hB
        rw [ht] at hP1
        rcases hw with ⟨i_18, rfl, rfl⟩ | ⟨i_19, i_20, rfl, rfl⟩
        ·
          have hP := g5_same hP hk1
          generalize H1 = H at hP hS ⊢
          refine lv_istore (lv' := [(8, .int (-1)), (7, .int k_s), (5, .long 0), (0, .ref a_42), (1, .int p_c), (2, .int 3), (3, .int p_h)]) hx hb dX5_run_104 hl (by decide) rfl (fun ls hl => ?_)
          refine lv_iload hx hb dX5_run_106 (lv_at hl 0 rfl) ?_
          refine lv_iconst (v := (-1)) hx hb dX5_run_108 (by decide) ?_
          refine lv_icmp_eq (tgt := 127) hx hb dX5_run_109 (by decide) (fun c_21 => ?_) (fun c_21 => ?_)
          ·
            exact W.vret hx hb hr (fun t ht hW => ⟨⟨[(a_42, .inr (5, [.ref a_1, .ref a_43, .ref a_46, .int k_n, .int (-1), .int k_l, .int 1000000, .int 0, .int e_met, .int k_c, .int 3, .int p_h, .int 0])), (a_1, .inr (1, [.long 0, .int 1000, .int (-1), .int (-1), .int 0, .ref a_2, .ref a_3, .ref a_5, .ref a_7, .ref a_9, .ref a_11, .long 0, .ref a_13])), (a_46, .inl (G.2 0, 200, .inl k_f)), (a_13, .inl (G.2 1, 24, .inr (.inl (fun _ => 0)))), (a_9, .inr (6, [.int 8, .int 5, .ref a_10, .int 0]))], rfl, ⟨k_n, k_l, k_c, k_f, by omega, ⟨by omega, by omega⟩, ⟨fun h => i_13.1 (by omega), fun h => i_13.2 (by omega)⟩, ⟨by omega, by omega⟩, ⟨by omega, by omega⟩, fun j h => i_14 j (by omega), rfl⟩, by rw [ht]; exact hP.sub [4, 0, 1, 2, 3] rfl, hD.sub [4, 0, 1, 2, 3] (by decide) rfl⟩, hS.F ht⟩) hS.2.2 dX5_run_127
          ·
            exact absurd c_21 (by decide)
        ·
          have hP := g5_same hP hk1
          generalize H1 = H at hP hS ⊢
          refine lv_istore (lv' := [(8, .int (k_c - 1)), (7, .int k_s), (5, .long 0), (0, .ref a_42), (1, .int p_c), (2, .int 3), (3, .int p_h)]) hx hb dX5_run_104 hl (by decide) rfl (fun ls hl => ?_)
          refine lv_iload hx hb dX5_run_106 (lv_at hl 0 rfl) ?_
          refine lv_iconst (v := (-1)) hx hb dX5_run_108 (by decide) ?_
          refine lv_icmp_eq (tgt := 127) hx hb dX5_run_109 (by decide) (fun c_22 => ?_) (fun c_22 => ?_)
          ·
            have i_22 : (k_c - 1).toInt = (-1) := by have z := g5_eq (a := (k_c - 1).toInt) (b := (-1)) (by rfl) (by decide) c_22; omega
            exact W.vret hx hb hr (fun t ht hW => ⟨⟨[(a_42, .inr (5, [.ref a_1, .ref a_43, .ref a_46, .int k_n, .int (-1), .int k_l, .int 1000000, .int 0, .int e_met, .int k_c, .int 3, .int p_h, .int 0])), (a_1, .inr (1, [.long 0, .int 1000, .int (-1), .int (-1), .int 0, .ref a_2, .ref a_3, .ref a_5, .ref a_7, .ref a_9, .ref a_11, .long 0, .ref a_13])), (a_46, .inl (G.2 0, 200, .inl k_f)), (a_13, .inl (G.2 1, 24, .inr (.inl (fun _ => 0)))), (a_9, .inr (6, [.int 8, .int 5, .ref a_10, .int 0]))], rfl, ⟨k_n, k_l, k_c, k_f, by omega, ⟨by omega, by omega⟩, ⟨fun h => i_13.1 (by omega), fun h => i_13.2 (by omega)⟩, ⟨by omega, by omega⟩, ⟨by omega, by omega⟩, fun j h => i_14 j (by omega), rfl⟩, by rw [ht]; exact hP.sub [4, 0, 1, 2, 3] rfl, hD.sub [4, 0, 1, 2, 3] (by decide) rfl⟩, hS.F ht⟩) hS.2.2 dX5_run_127
          ·
            have i_22 : (k_c - 1).toInt ≠ (-1) := by have z := g5_eqN (a := (k_c - 1).toInt) (b := (-1)) (by rfl) (by decide) c_22; omega
            refine lv_aload_n hx hb dX5_run_112 rfl (lv_at hl 3 rfl) ?_
            refine va_get (D := G.1) (ci := 5) (v := .ref a_1) (C := RX5) (T := TX5) (N := 13) hx hb hts inG_X5 hown hK hP 4 rfl rfl 0 (by decide) (hts _ fl_X5_22) (fun _ h9 => h9) rfl dX5_run_113 ?_
            refine va_get (D := G.1) (ci := 1) (v := .long 0) (C := RX1) (T := TX1) (N := 13) hx hb hts inG_X1 hown hK hP 0 rfl rfl 0 (by decide) (hts _ fl_X5_74) (fun _ h9 => h9) rfl dX5_run_116 ?_
            refine lv_iload hx hb dX5_run_119 (lv_at hl 0 rfl) ?_
            have hPc := hP.sub (ws' := []) [] rfl
            have hDc := hD.sub (ws' := []) [] (by decide) rfl
            have hFc := va_free (wc := []) hD hS hA [] rfl
            refine va_calli (va_runSN (As := [.long 0, .int (k_c - 1)]) (rest := []) ⟨hx, hb, hml, hown, hts⟩ (kX11_isOn_4 l G H.size (k_c - 1) ⟨by omega, by omega⟩) ⟨va_cnB 2 hts gW_X11_isOn rfl rfl rfl (hN.1 _ g5_nw_X5_77) (hts _ ini_X11) hs_X11_isOn ⟨Nat.le_of_ble_eq_true rfl, Nat.le_of_ble_eq_true rfl⟩, hts _ st_X11_isOn, trivial⟩ (g5_preS hPc hK hDc hN hT hS hFc) rfl rfl hl.1 rfl (lv_room (Nat.le_of_ble_eq_true rfl)) dX5_run_121 ⟨Nat.le_of_ble_eq_true rfl, Nat.le_of_ble_eq_true rfl⟩) hS (fun q _ h => hFc q h) hFc (fun r u t H1 locs ht hvm hw hB hz1 hk1 hS => ?_)
            obtain ⟨hP1, hD1⟩ := hB
            rw [ht] at hP1
            obtain ⟨rfl, rfl⟩ := hw
            have hP := g5_same hP hk1
            generalize H1 = H at hP hS ⊢
            refine lv_if_eq (tgt := 128) hx hb dX5_run_124 (by decide) (fun c_23 => ?_) (fun c_23 => ?_)
            ·
              refine lv_aload_n hx hb dX5_run_128 rfl (lv_at hl 3 rfl) ?_
              refine lv_iload hx hb dX5_run_129 (lv_at hl 0 rfl) ?_
              refine va_put (D := G.1) (ci := 5) (v := .int (k_c - 1)) (ty := .int) (C := RX5) (T := TX5) (N := 13) hx hb hts inG_X5 tyX5 tyX5_ok nmX5 hown hK hP hD hS 4 rfl rfl 9 (by decide) (hts _ fl_X5_26) (fun _ h9 => h9) rfl (by decide +kernel) rfl rfl (Nat.le_of_ble_eq_true rfl) dX5_run_131 (fun H locs hP hD hS => ?_)
              have hP : va_P G.1 vwCl [(a_1, .inr (1, [.long 0, .int 1000, .int (-1), .int (-1), .int 0, .ref a_2, .ref a_3, .ref a_5, .ref a_7, .ref a_9, .ref a_11, .long 0, .ref a_13])), (a_46, .inl (G.2 0, 200, .inl k_f)), (a_13, .inl (G.2 1, 24, .inr (.inl (fun _ => 0)))), (a_9, .inr (6, [.int 8, .int 5, .ref a_10, .int 0])), (a_42, .inr (5, [.ref a_1, .ref a_43, .ref a_46, .int k_n, .int (-1), .int k_l, .int 1000000, .int 0, .int e_met, .int (k_c - 1), .int 3, .int p_h, .int 0]))] H := hP
              have hD : va_D A [(a_1, .inr (1, [.long 0, .int 1000, .int (-1), .int (-1), .int 0, .ref a_2, .ref a_3, .ref a_5, .ref a_7, .ref a_9, .ref a_11, .long 0, .ref a_13])), (a_46, .inl (G.2 0, 200, .inl k_f)), (a_13, .inl (G.2 1, 24, .inr (.inl (fun _ => 0)))), (a_9, .inr (6, [.int 8, .int 5, .ref a_10, .int 0])), (a_42, .inr (5, [.ref a_1, .ref a_43, .ref a_46, .int k_n, .int (-1), .int k_l, .int 1000000, .int 0, .int e_met, .int (k_c - 1), .int 3, .int p_h, .int 0]))] := hD
              refine lv_aload_n hx hb dX5_run_134 rfl (lv_at hl 3 rfl) ?_
              refine lv_aload_n hx hb dX5_run_135 rfl (lv_at hl 3 rfl) ?_
              refine va_get (D := G.1) (ci := 5) (v := .int p_h) (C := RX5) (T := TX5) (N := 13) hx hb hts inG_X5 hown hK hP 4 rfl rfl 11 (by decide) (hts _ fl_X5_33) (fun _ h9 => h9) rfl dX5_run_136 ?_
              refine va_put (D := G.1) (ci := 5) (v := .int p_h) (ty := .int) (C := RX5) (T := TX5) (N := 13) hx hb hts inG_X5 tyX5 tyX5_ok nmX5 hown hK hP hD hS 4 rfl rfl 5 (by decide) (hts _ fl_X5_42) (fun _ h9 => h9) rfl (by decide +kernel) rfl rfl (Nat.le_of_ble_eq_true rfl) dX5_run_139 (fun H locs hP hD hS => ?_)
              have hP : va_P G.1 vwCl [(a_1, .inr (1, [.long 0, .int 1000, .int (-1), .int (-1), .int 0, .ref a_2, .ref a_3, .ref a_5, .ref a_7, .ref a_9, .ref a_11, .long 0, .ref a_13])), (a_46, .inl (G.2 0, 200, .inl k_f)), (a_13, .inl (G.2 1, 24, .inr (.inl (fun _ => 0)))), (a_9, .inr (6, [.int 8, .int 5, .ref a_10, .int 0])), (a_42, .inr (5, [.ref a_1, .ref a_43, .ref a_46, .int k_n, .int (-1), .int p_h, .int 1000000, .int 0, .int e_met, .int (k_c - 1), .int 3, .int p_h, .int 0]))] H := hP
              have hD : va_D A [(a_1, .inr (1, [.long 0, .int 1000, .int (-1), .int (-1), .int 0, .ref a_2, .ref a_3, .ref a_5, .ref a_7, .ref a_9, .ref a_11, .long 0, .ref a_13])), (a_46, .inl (G.2 0, 200, .inl k_f)), (a_13, .inl (G.2 1, 24, .inr (.inl (fun _ => 0)))), (a_9, .inr (6, [.int 8, .int 5, .ref a_10, .int 0])), (a_42, .inr (5, [.ref a_1, .ref a_43, .ref a_46, .int k_n, .int (-1), .int p_h, .int 1000000, .int 0, .int e_met, .int (k_c - 1), .int 3, .int p_h, .int 0]))] := hD
              refine lv_aload_n hx hb dX5_run_142 rfl (lv_at hl 3 rfl) ?_
              refine va_get (D := G.1) (ci := 5) (v := .ref a_46) (C := RX5) (T := TX5) (N := 13) hx hb hts inG_X5 hown hK hP 4 rfl rfl 2 (by decide) (hts _ fl_X5_18) (fun _ h9 => h9) rfl dX5_run_143 ?_
              refine lv_iload hx hb dX5_run_146 (lv_at hl 1 rfl) ?_
              refine lv_aload_n hx hb dX5_run_148 rfl (lv_at hl 3 rfl) ?_
              refine va_get (D := G.1) (ci := 5) (v := .int p_h) (C := RX5) (T := TX5) (N := 13) hx hb hts inG_X5 hown hK hP 4 rfl rfl 11 (by decide) (hts _ fl_X5_33) (fun _ h9 => h9) rfl dX5_run_149 ?_
              refine lv_bipush (v := 64) hx hb dX5_run_152 (by decide) ?_
              refine lv_imul hx hb dX5_run_154 ?_
              have t_24 : (p_h * 64).toInt = p_h.toInt * 64 := g5_imul (a := p_h.toInt) (b := 64) (by rfl) (by decide) (by omega) (by omega)
              refine lv_aload_n hx hb dX5_run_155 rfl (lv_at hl 3 rfl) ?_
              refine va_get (D := G.1) (ci := 5) (v := .int (k_c - 1)) (C := RX5) (T := TX5) (N := 13) hx hb hts inG_X5 hown hK hP 4 rfl rfl 9 (by decide) (hts _ fl_X5_26) (fun _ h9 => h9) rfl dX5_run_156 ?_
              refine lv_iadd hx hb dX5_run_159 ?_
              have t_25 : ((p_h * 64) + (k_c - 1)).toInt = (p_h * 64).toInt + (k_c - 1).toInt := g5_iadd (a := (p_h * 64).toInt) (b := (k_c - 1).toInt) (by rfl) (by rfl) (by omega) (by omega)
              refine va_iast hx hb hK hP hD hS 1 0 rfl rfl (i := k_s) (x := ((p_h * 64) + (k_c - 1))) (vp_in_iff.mpr ⟨by omega, by omega⟩) dX5_run_160 (fun H locs hP hD hS => ?_)
              have hP : va_P G.1 vwCl [(a_1, .inr (1, [.long 0, .int 1000, .int (-1), .int (-1), .int 0, .ref a_2, .ref a_3, .ref a_5, .ref a_7, .ref a_9, .ref a_11, .long 0, .ref a_13])), (a_46, .inl (G.2 0, 200, .inl (upd k_f k_s.toNatClampNeg ((p_h * 64) + (k_c - 1))))), (a_13, .inl (G.2 1, 24, .inr (.inl (fun _ => 0)))), (a_9, .inr (6, [.int 8, .int 5, .ref a_10, .int 0])), (a_42, .inr (5, [.ref a_1, .ref a_43, .ref a_46, .int k_n, .int (-1), .int p_h, .int 1000000, .int 0, .int e_met, .int (k_c - 1), .int 3, .int p_h, .int 0]))] H := hP
              have hD : va_D A [(a_1, .inr (1, [.long 0, .int 1000, .int (-1), .int (-1), .int 0, .ref a_2, .ref a_3, .ref a_5, .ref a_7, .ref a_9, .ref a_11, .long 0, .ref a_13])), (a_46, .inl (G.2 0, 200, .inl (upd k_f k_s.toNatClampNeg ((p_h * 64) + (k_c - 1))))), (a_13, .inl (G.2 1, 24, .inr (.inl (fun _ => 0)))), (a_9, .inr (6, [.int 8, .int 5, .ref a_10, .int 0])), (a_42, .inr (5, [.ref a_1, .ref a_43, .ref a_46, .int k_n, .int (-1), .int p_h, .int 1000000, .int 0, .int e_met, .int (k_c - 1), .int 3, .int p_h, .int 0]))] := hD
              refine lv_aload_n hx hb dX5_run_161 rfl (lv_at hl 3 rfl) ?_
              refine lv_iload hx hb dX5_run_162 (lv_at hl 1 rfl) ?_
              refine lv_iconst (v := 1) hx hb dX5_run_164 (by decide) ?_
              refine lv_iadd hx hb dX5_run_165 ?_
              have t_26 : (k_s + 1).toInt = k_s.toInt + 1 := g5_iadd (a := k_s.toInt) (b := 1) (by rfl) (by decide) (by omega) (by omega)
              refine va_put (D := G.1) (ci := 5) (v := .int (k_s + 1)) (ty := .int) (C := RX5) (T := TX5) (N := 13) hx hb hts inG_X5 tyX5 tyX5_ok nmX5 hown hK hP hD hS 4 rfl rfl 3 (by decide) (hts _ fl_X5_36) (fun _ h9 => h9) rfl (by decide +kernel) rfl rfl (Nat.le_of_ble_eq_true rfl) dX5_run_166 (fun H locs hP hD hS => ?_)
              have hP : va_P G.1 vwCl [(a_1, .inr (1, [.long 0, .int 1000, .int (-1), .int (-1), .int 0, .ref a_2, .ref a_3, .ref a_5, .ref a_7, .ref a_9, .ref a_11, .long 0, .ref a_13])), (a_46, .inl (G.2 0, 200, .inl (upd k_f k_s.toNatClampNeg ((p_h * 64) + (k_c - 1))))), (a_13, .inl (G.2 1, 24, .inr (.inl (fun _ => 0)))), (a_9, .inr (6, [.int 8, .int 5, .ref a_10, .int 0])), (a_42, .inr (5, [.ref a_1, .ref a_43, .ref a_46, .int (k_s + 1), .int (-1), .int p_h, .int 1000000, .int 0, .int e_met, .int (k_c - 1), .int 3, .int p_h, .int 0]))] H := hP
              have hD : va_D A [(a_1, .inr (1, [.long 0, .int 1000, .int (-1), .int (-1), .int 0, .ref a_2, .ref a_3, .ref a_5, .ref a_7, .ref a_9, .ref a_11, .long 0, .ref a_13])), (a_46, .inl (G.2 0, 200, .inl (upd k_f k_s.toNatClampNeg ((p_h * 64) + (k_c - 1))))), (a_13, .inl (G.2 1, 24, .inr (.inl (fun _ => 0)))), (a_9, .inr (6, [.int 8, .int 5, .ref a_10, .int 0])), (a_42, .inr (5, [.ref a_1, .ref a_43, .ref a_46, .int (k_s + 1), .int (-1), .int p_h, .int 1000000, .int 0, .int e_met, .int (k_c - 1), .int 3, .int p_h, .int 0]))] := hD
              refine lv_aload_n hx hb dX5_run_169 rfl (lv_at hl 3 rfl) ?_
              refine va_get (D := G.1) (ci := 5) (v := .ref a_1) (C := RX5) (T := TX5) (N := 13) hx hb hts inG_X5 hown hK hP 4 rfl rfl 0 (by decide) (hts _ fl_X5_22) (fun _ h9 => h9) rfl dX5_run_170 ?_
              refine va_get (D := G.1) (ci := 1) (v := .ref a_13) (C := RX1) (T := TX1) (N := 13) hx hb hts inG_X1 hown hK hP 0 rfl rfl 12 (by decide) (hts _ fl_X5_81) (fun _ h9 => h9) rfl dX5_run_173 ?_
              refine lv_aload_n hx hb dX5_run_176 rfl (lv_at hl 3 rfl) ?_
              refine va_get (D := G.1) (ci := 5) (v := .int p_h) (C := RX5) (T := TX5) (N := 13) hx hb hts inG_X5 hown hK hP 4 rfl rfl 11 (by decide) (hts _ fl_X5_33) (fun _ h9 => h9) rfl dX5_run_177 ?_
              refine va_lald hx hb hK hP 2 1 rfl rfl (i := p_h) (vp_in_iff.mpr ⟨by omega, by omega⟩) dX5_run_180 ?_
              refine g5_tl (v := 0) rfl ?_
              refine lv_lload hx hb dX5_run_181 (lv_at hl 2 rfl) ?_
              refine lv_lor hx hb dX5_run_183 ?_
              refine g5_tl (v := 0) (by decide) ?_
              refine lv_aload_n hx hb dX5_run_184 rfl (lv_at hl 3 rfl) ?_
              refine va_get (D := G.1) (ci := 5) (v := .int (k_c - 1)) (C := RX5) (T := TX5) (N := 13) hx hb hts inG_X5 hown hK hP 4 rfl rfl 9 (by decide) (hts _ fl_X5_26) (fun _ h9 => h9) rfl dX5_run_185 ?_
              have hPc := hP.sub (ws' := []) [] rfl
              have hDc := hD.sub (ws' := []) [] (by decide) rfl
              have hFc := va_free (wc := []) hD hS hA [] rfl
              refine va_calli (va_runSN (As := [.long 0, .int (k_c - 1)]) (rest := []) ⟨hx, hb, hml, hown, hts⟩ (kX11_isOn_4 l G H.size (k_c - 1) ⟨by omega, by omega⟩) ⟨va_cnB 2 hts gW_X11_isOn rfl rfl rfl (hN.1 _ g5_nw_X5_77) (hts _ ini_X11) hs_X11_isOn ⟨Nat.le_of_ble_eq_true rfl, Nat.le_of_ble_eq_true rfl⟩, hts _ st_X11_isOn, trivial⟩ (g5_preS hPc hK hDc hN hT hS hFc) rfl rfl hl.1 rfl (lv_room (Nat.le_of_ble_eq_true rfl)) dX5_run_188 ⟨Nat.le_of_ble_eq_true rfl, Nat.le_of_ble_eq_true rfl⟩) hS (fun q _ h => hFc q h) hFc (fun r u t H1 locs ht hvm hw hB hz1 hk1 hS => ?_)
              obtain ⟨hP1, hD1⟩ := hB
              rw [ht] at hP1
              obtain ⟨rfl, rfl⟩ := hw
              have hP := g5_same hP hk1
              generalize H1 = H at hP hS ⊢
              refine lv_if_eq (tgt := 221) hx hb dX5_run_191 (by decide) (fun c_27 => ?_) (fun c_27 => ?_)
              ·
                refine lv_iinc (v := (k_s + 1)) (lv' := [(7, .int (k_s + 1)), (8, .int (k_c - 1)), (5, .long 0), (0, .ref a_42), (1, .int p_c), (2, .int 3), (3, .int p_h)]) hx hb dX5_run_221 hl (k := 1) rfl rfl (by decide) rfl (fun ls hl => ?_)
                have t_28 : (k_s + 1).toInt = k_s.toInt + 1 := g5_iadd (a := k_s.toInt) (b := 1) rfl (by decide) (by omega) (by omega)
                refine lv_goto (tgt := 78) hx hb dX5_run_224 (by decide) ?_
                exact ih_78_15 ((k_s + 1), (k_s + 1), p_h, (k_c - 1), (upd k_f k_s.toNatClampNeg ((p_h * 64) + (k_c - 1)))) ls H locs (show Int.toNat (200 - (k_s + 1).toInt) < Int.toNat (200 - k_s.toInt) by omega) ⟨lv_sub hl [0, 2, 3, 4, 5, 6] rfl, hP, hD, hS, ⟨by omega, by omega⟩, ⟨by omega, by omega⟩, ⟨by omega, by omega⟩, ⟨by omega, by omega⟩, by omega, by omega, by omega, ⟨fun h => by omega, fun _ => rfl⟩, g5_pts (fun j => p_h.toInt * 64 + (p_c.toInt - (j + 1))) i_14 (by omega) (by omega) (by show _ = p_h.toInt * 64 + (p_c.toInt - (k_s.toInt + 1)); omega)⟩
              ·
                exact absurd c_27 (by decide)
            ·
              exact absurd c_23 (by decide)
  ·
    exact absurd c_5 (by decide)
set_option maxHeartbeats 4000000 in
set_option maxRecDepth 100000 in
theorem k_isOn (l : Launch) (G : g5_G) (sz : Nat) (p_c : Int32) (p_b : Int64) (h_p_c : 0 ≤ p_c.toInt ∧ p_c.toInt ≤ 63) : Met l yX11_isOn (wsG yX11_isOn cX11_isOn 3 (some .boolean)) ({ frames := 0, cells := 0, slots := 0, locals := 0 }) (va_Pc [.long p_b, .int p_c] (g5_P G [] sz)) (va_Qi (fun (r : Int32) (u : va_W) => ((onB p_b p_c.toInt = false) ∧ (r = 0) ∧ (u = [])) ∨ ((onB p_b p_c.toInt = true) ∧ (r = 1) ∧ (u = []))) (g5_B G (va_A [] sz)) (va_A [] sz)) 0 0 (va_A [] sz) := by
  refine Met.ofW (cc := cX11_isOn) (maxL := 3) (ret := (some .boolean)) (by decide) rfl ?_
  intro p e s m args below meth c s₁ B hml hv
  obtain ⟨rfl, hsz, hP, hK, hD0, hN, hT⟩ := hv
  have hx := B.exec
  have hb := B.bytes
  have hr := B.returns
  have hts : ∀ w ∈ tblG, w.before _ s = true := fun w h => atoms_spec (ws := (wsG yX11_isOn cX11_isOn 3 (some .boolean))) B.pre w (List.mem_cons_of_mem _ h)
  have hown : s.vm.findClass RX11 = some m.cls := findClass_of_methodNamed B.named
  have hlocks := B.notSynchronized
  subst hsz
  have hD := hD0.self (sz := s.heap.size)
  generalize hAe : va_A [] s.heap.size = A at hD hT ⊢
  have hA : ∀ q : Nat, s.heap.size ≤ q → A q := fun q h => by rw [← hAe]; exact Or.inr h
  have hS : va_S A s.heap s.heap [] := va_S.rf
  have hP : va_P G.1 vwCl [] s.heap := hP
  have hl := lv_entry ([.long p_b, .int p_c]) (n := 3) (Nat.le_of_ble_eq_true rfl)
  rw [lg_entry_eq]
  generalize (lg_sl ([.long p_b, .int p_c]) ++ List.replicate (3 - (lg_sl ([.long p_b, .int p_c])).length) Slot.unset).toArray = ls at hl ⊢
  have hl : lv_has ls 3 [(0, .long p_b), (2, .int p_c)] := hl
  refine lv_lload_n hx hb dX11_isOn_0 rfl (lv_at hl 0 rfl) ?_
  refine lv_iload_n hx hb dX11_isOn_1 rfl (lv_at hl 1 rfl) ?_
  refine lv_lushr (v := ((p_b.toUInt64 >>> (p_c.toInt64.toUInt64 &&& Int64.toUInt64 63)).toInt64)) hx hb dX11_isOn_2 rfl ?_
  refine lv_lconst (v := 1) hx hb dX11_isOn_3 (by decide) ?_
  refine lv_land hx hb dX11_isOn_4 ?_
  refine lv_lconst (v := 0) hx hb dX11_isOn_5 (by decide) ?_
  refine W.lcmp hx hb dX11_isOn_6 ?_
  refine lv_if_eq (tgt := 14) hx hb dX11_isOn_7 (by decide) (fun c_1 => ?_) (fun c_1 => ?_)
  ·
    have i_1 : (lg_cmp (((p_b.toUInt64 >>> (p_c.toInt64.toUInt64 &&& Int64.toUInt64 63)).toInt64) &&& 1) 0).toInt = 0 := by have z := g5_eq (a := (lg_cmp (((p_b.toUInt64 >>> (p_c.toInt64.toUInt64 &&& Int64.toUInt64 63)).toInt64) &&& 1) 0).toInt) (b := 0) (by rfl) (by decide) c_1; omega
    refine lv_iconst (v := 0) hx hb dX11_isOn_14 (by decide) ?_
    exact W.zret (v := 0) hx hb hr rfl (fun t ht hW => ⟨⟨0, [], rfl, Or.inl (⟨g5_onF (by omega) (by omega) (by omega), rfl, rfl⟩), by rw [ht]; exact hP.sub [] rfl, hD.sub [] (by decide) rfl⟩, hS.F ht⟩) hS.2.2 dX11_isOn_15
  ·
    have i_1 : (lg_cmp (((p_b.toUInt64 >>> (p_c.toInt64.toUInt64 &&& Int64.toUInt64 63)).toInt64) &&& 1) 0).toInt ≠ 0 := by have z := g5_eqN (a := (lg_cmp (((p_b.toUInt64 >>> (p_c.toInt64.toUInt64 &&& Int64.toUInt64 63)).toInt64) &&& 1) 0).toInt) (b := 0) (by rfl) (by decide) c_1; omega
    refine lv_iconst (v := 1) hx hb dX11_isOn_10 (by decide) ?_
    refine lv_goto (tgt := 15) hx hb dX11_isOn_11 (by decide) ?_
    exact W.zret (v := 1) hx hb hr rfl (fun t ht hW => ⟨⟨1, [], rfl, Or.inr (⟨g5_onT (by omega) (by omega) (by omega), rfl, rfl⟩), by rw [ht]; exact hP.sub [] rfl, hD.sub [] (by decide) rfl⟩, hS.F ht⟩) hS.2.2 dX11_isOn_15
theorem dJ7_fill_d0a16_0 : decode cJ7_fill_d0a16 0 = .ok (.iconst 0, 1) := by decide +kernel
theorem dJ7_fill_d0a16_1 : decode cJ7_fill_d0a16 1 = .ok (.istore_n 3, 1) := by decide +kernel
theorem dJ7_fill_d0a16_2 : decode cJ7_fill_d0a16 2 = .ok (.aload_n 0, 1) := by decide +kernel
theorem dJ7_fill_d0a16_3 : decode cJ7_fill_d0a16 3 = .ok (.arraylength, 1) := by decide +kernel
theorem dJ7_fill_d0a16_4 : decode cJ7_fill_d0a16 4 = .ok (.istore 4, 2) := by decide +kernel
theorem dJ7_fill_d0a16_6 : decode cJ7_fill_d0a16 6 = .ok (.iload_n 3, 1) := by decide +kernel
theorem dJ7_fill_d0a16_7 : decode cJ7_fill_d0a16 7 = .ok (.iload 4, 2) := by decide +kernel
theorem dJ7_fill_d0a16_9 : decode cJ7_fill_d0a16 9 = .ok (.if_icmp .ge 13, 3) := by decide +kernel
theorem dJ7_fill_d0a16_12 : decode cJ7_fill_d0a16 12 = .ok (.aload_n 0, 1) := by decide +kernel
theorem dJ7_fill_d0a16_13 : decode cJ7_fill_d0a16 13 = .ok (.iload_n 3, 1) := by decide +kernel
theorem dJ7_fill_d0a16_14 : decode cJ7_fill_d0a16 14 = .ok (.lload_n 1, 1) := by decide +kernel
theorem dJ7_fill_d0a16_15 : decode cJ7_fill_d0a16 15 = .ok (.lastore, 1) := by decide +kernel
theorem dJ7_fill_d0a16_16 : decode cJ7_fill_d0a16 16 = .ok (.iinc 3 1, 3) := by decide +kernel
theorem dJ7_fill_d0a16_19 : decode cJ7_fill_d0a16 19 = .ok (.goto (-13), 3) := by decide +kernel
theorem dJ7_fill_d0a16_22 : decode cJ7_fill_d0a16 22 = .ok (.return_, 1) := by decide +kernel
set_option maxHeartbeats 4000000 in
set_option maxRecDepth 100000 in
theorem k_fillJ24 (l : Launch) (G : g5_G) (a_0 : Nat) (sz : Nat) (f_a : Nat → Int64) : Met l yJ7_fill_d0a16 (wsG yJ7_fill_d0a16 cJ7_fill_d0a16 5 none) ({ frames := 0, cells := 0, slots := 0, locals := 0 }) (va_Pc [.ref a_0, .long 0] (g5_P G [(a_0, .inl (G.2 1, 24, .inr (.inl f_a)))] sz)) (va_Qv (fun (u : va_W) => ((u = [(a_0, .inl (G.2 1, 24, .inr (.inl (fun _ => 0))))]))) (g5_B G (va_A [(a_0, .inl (G.2 1, 24, .inr (.inl f_a)))] sz)) (va_A [(a_0, .inl (G.2 1, 24, .inr (.inl f_a)))] sz)) 0 0 (va_A [(a_0, .inl (G.2 1, 24, .inr (.inl f_a)))] sz) := by
  refine Met.ofW (cc := cJ7_fill_d0a16) (maxL := 5) (ret := none) (by decide) rfl ?_
  intro p e s m args below meth c s₁ B hml hv
  obtain ⟨rfl, hsz, hP, hK, hD0, hN, hT⟩ := hv
  have hx := B.exec
  have hb := B.bytes
  have hr := B.returns
  have hts : ∀ w ∈ tblG, w.before _ s = true := fun w h => atoms_spec (ws := (wsG yJ7_fill_d0a16 cJ7_fill_d0a16 5 none)) B.pre w (List.mem_cons_of_mem _ h)
  have hown : s.vm.findClass RJ7 = some m.cls := findClass_of_methodNamed B.named
  have hlocks := B.notSynchronized
  subst hsz
  have hD := hD0.self (sz := s.heap.size)
  generalize hAe : va_A [(a_0, .inl (G.2 1, 24, .inr (.inl f_a)))] s.heap.size = A at hD hT ⊢
  have hA : ∀ q : Nat, s.heap.size ≤ q → A q := fun q h => by rw [← hAe]; exact Or.inr h
  have hS : va_S A s.heap s.heap [] := va_S.rf
  have hP : va_P G.1 vwCl [(a_0, .inl (G.2 1, 24, .inr (.inl f_a)))] s.heap := hP
  have hl := lv_entry ([.ref a_0, .long 0]) (n := 5) (Nat.le_of_ble_eq_true rfl)
  rw [lg_entry_eq]
  generalize (lg_sl ([.ref a_0, .long 0]) ++ List.replicate (5 - (lg_sl ([.ref a_0, .long 0])).length) Slot.unset).toArray = ls at hl ⊢
  have hl : lv_has ls 5 [(0, .ref a_0), (1, .long 0)] := hl
  refine lv_iconst (v := 0) hx hb dJ7_fill_d0a16_0 (by decide) ?_
  refine lv_istore_n (lv' := [(3, .int 0), (0, .ref a_0), (1, .long 0)]) hx hb dJ7_fill_d0a16_1 rfl hl (by decide) rfl (fun ls hl => ?_)
  refine lv_aload_n hx hb dJ7_fill_d0a16_2 rfl (lv_at hl 1 rfl) ?_
  refine va_alen hx hb hK hP 0 1 rfl rfl (v := 24) (by show Int32.ofNat 24 = 24; decide) dJ7_fill_d0a16_3 ?_
  refine lv_istore (lv' := [(4, .int 24), (3, .int 0), (0, .ref a_0), (1, .long 0)]) hx hb dJ7_fill_d0a16_4 hl (by decide) rfl (fun ls hl => ?_)
  refine g5_loop (α := (Int32) × (Nat → Int64)) (fun (q : (Int32) × (Nat → Int64)) (ls : Array Slot) (H : Heap) (locs : List Loc) => match q with | (k_i, k_f) => lv_has ls 5 [(3, .int k_i), (4, .int 24), (0, .ref a_0), (1, .long 0)] ∧ va_P G.1 vwCl [(a_0, .inl (G.2 1, 24, .inr (.inl k_f)))] H ∧ va_D A [(a_0, .inl (G.2 1, 24, .inr (.inl k_f)))] ∧ va_S A s.heap H locs ∧ (0 ≤ k_i.toInt ∧ k_i.toInt ≤ 24) ∧ (∀ j : Nat, (j : Int) < k_i.toInt → k_f j = (fun _ => 0) j)) (fun (q : (Int32) × (Nat → Int64)) => match q with | (k_i, k_f) => Int.toNat (24 - k_i.toInt)) (0, f_a) ⟨lv_sub hl [1, 0, 2, 3] rfl, hP, hD, hS, ⟨by decide, by decide⟩, fun j h => absurd h (by have z : (0 : Int32).toInt = 0 := (by decide); omega)⟩ ?_
  rintro ⟨k_i, k_f⟩ ls H locs ⟨hl, hP, hD, hS, i_1, i_2⟩ ih_6_3
  have hl : lv_has ls 5 [(3, .int k_i), (4, .int 24), (0, .ref a_0), (1, .long 0)] := hl
  have i_1 : 0 ≤ k_i.toInt ∧ k_i.toInt ≤ 24 := i_1
  have i_2 : ∀ j : Nat, (j : Int) < k_i.toInt → k_f j = (fun _ => 0) j := i_2
  have hP : va_P G.1 vwCl [(a_0, .inl (G.2 1, 24, .inr (.inl k_f)))] H := hP
  have hD : va_D A [(a_0, .inl (G.2 1, 24, .inr (.inl k_f)))] := hD
  refine lv_iload_n hx hb dJ7_fill_d0a16_6 rfl (lv_at hl 0 rfl) ?_
  refine lv_iload hx hb dJ7_fill_d0a16_7 (lv_at hl 1 rfl) ?_
  refine lv_icmp_ge (tgt := 22) hx hb dJ7_fill_d0a16_9 (by decide) (fun c_4 => ?_) (fun c_4 => ?_)
  ·
    have i_4 : k_i.toInt ≥ 24 := by have z := g5_ge (a := k_i.toInt) (b := 24) (by rfl) (by decide) c_4; omega
    obtain ⟨hP, hD⟩ := g5_cvJ hP hD 0 (f := k_f) (g := (fun _ => 0)) rfl (fun j h => i_2 j (by omega))
    have hP : va_P G.1 vwCl [(a_0, .inl (G.2 1, 24, .inr (.inl (fun _ => 0))))] H := hP
    have hD : va_D A [(a_0, .inl (G.2 1, 24, .inr (.inl (fun _ => 0))))] := hD
    exact W.vret hx hb hr (fun t ht hW => ⟨⟨[(a_0, .inl (G.2 1, 24, .inr (.inl (fun _ => 0))))], rfl, rfl, by rw [ht]; exact hP.sub [0] rfl, hD.sub [0] (by decide) rfl⟩, hS.F ht⟩) hS.2.2 dJ7_fill_d0a16_22
  ·
    have i_4 : k_i.toInt < 24 := by have z := g5_geN (a := k_i.toInt) (b := 24) (by rfl) (by decide) c_4; omega
    refine lv_aload_n hx hb dJ7_fill_d0a16_12 rfl (lv_at hl 2 rfl) ?_
    refine lv_iload_n hx hb dJ7_fill_d0a16_13 rfl (lv_at hl 0 rfl) ?_
    refine lv_lload_n hx hb dJ7_fill_d0a16_14 rfl (lv_at hl 3 rfl) ?_
    refine va_last hx hb hK hP hD hS 0 1 rfl rfl (i := k_i) (x := 0) (vp_in_iff.mpr ⟨by omega, by omega⟩) dJ7_fill_d0a16_15 (fun H locs hP hD hS => ?_)
    have hP : va_P G.1 vwCl [(a_0, .inl (G.2 1, 24, .inr (.inl (vp_updL k_f k_i.toNatClampNeg 0))))] H := hP
    have hD : va_D A [(a_0, .inl (G.2 1, 24, .inr (.inl (vp_updL k_f k_i.toNatClampNeg 0))))] := hD
    refine lv_iinc (v := (k_i + 1)) (lv' := [(3, .int (k_i + 1)), (4, .int 24), (0, .ref a_0), (1, .long 0)]) hx hb dJ7_fill_d0a16_16 hl (k := 0) rfl rfl (by decide) rfl (fun ls hl => ?_)
    have t_5 : (k_i + 1).toInt = k_i.toInt + 1 := g5_iadd (a := k_i.toInt) (b := 1) rfl (by decide) (by omega) (by omega)
    refine lv_goto (tgt := 6) hx hb dJ7_fill_d0a16_19 (by decide) ?_
    exact ih_6_3 ((k_i + 1), (vp_updL k_f k_i.toNatClampNeg 0)) ls H locs (show Int.toNat (24 - (k_i + 1).toInt) < Int.toNat (24 - k_i.toInt) by omega) ⟨lv_sub hl [0, 1, 2, 3] rfl, hP, hD, hS, ⟨by omega, by omega⟩, g5_fillJ i_2 (by omega) (by omega) rfl⟩
theorem dJ7_fill_53178_0 : decode cJ7_fill_53178 0 = .ok (.iconst 0, 1) := by decide +kernel
theorem dJ7_fill_53178_1 : decode cJ7_fill_53178 1 = .ok (.istore_n 2, 1) := by decide +kernel
theorem dJ7_fill_53178_2 : decode cJ7_fill_53178 2 = .ok (.aload_n 0, 1) := by decide +kernel
theorem dJ7_fill_53178_3 : decode cJ7_fill_53178 3 = .ok (.arraylength, 1) := by decide +kernel
theorem dJ7_fill_53178_4 : decode cJ7_fill_53178 4 = .ok (.istore_n 3, 1) := by decide +kernel
theorem dJ7_fill_53178_5 : decode cJ7_fill_53178 5 = .ok (.iload_n 2, 1) := by decide +kernel
theorem dJ7_fill_53178_6 : decode cJ7_fill_53178 6 = .ok (.iload_n 3, 1) := by decide +kernel
theorem dJ7_fill_53178_7 : decode cJ7_fill_53178 7 = .ok (.if_icmp .ge 13, 3) := by decide +kernel
theorem dJ7_fill_53178_10 : decode cJ7_fill_53178 10 = .ok (.aload_n 0, 1) := by decide +kernel
theorem dJ7_fill_53178_11 : decode cJ7_fill_53178 11 = .ok (.iload_n 2, 1) := by decide +kernel
theorem dJ7_fill_53178_12 : decode cJ7_fill_53178 12 = .ok (.iload_n 1, 1) := by decide +kernel
theorem dJ7_fill_53178_13 : decode cJ7_fill_53178 13 = .ok (.iastore, 1) := by decide +kernel
theorem dJ7_fill_53178_14 : decode cJ7_fill_53178 14 = .ok (.iinc 2 1, 3) := by decide +kernel
theorem dJ7_fill_53178_17 : decode cJ7_fill_53178 17 = .ok (.goto (-12), 3) := by decide +kernel
theorem dJ7_fill_53178_20 : decode cJ7_fill_53178 20 = .ok (.return_, 1) := by decide +kernel
set_option maxHeartbeats 4000000 in
set_option maxRecDepth 100000 in
theorem k_fillI1536 (l : Launch) (G : g5_G) (a_0 : Nat) (sz : Nat) (f_a : Nat → Int32) : Met l yJ7_fill_53178 (wsG yJ7_fill_53178 cJ7_fill_53178 4 none) ({ frames := 0, cells := 0, slots := 0, locals := 0 }) (va_Pc [.ref a_0, .int 0] (g5_P G [(a_0, .inl (G.2 0, 1536, .inl f_a))] sz)) (va_Qv (fun (u : va_W) => ((u = [(a_0, .inl (G.2 0, 1536, .inl (fun _ => 0)))]))) (g5_B G (va_A [(a_0, .inl (G.2 0, 1536, .inl f_a))] sz)) (va_A [(a_0, .inl (G.2 0, 1536, .inl f_a))] sz)) 0 0 (va_A [(a_0, .inl (G.2 0, 1536, .inl f_a))] sz) := by
  refine Met.ofW (cc := cJ7_fill_53178) (maxL := 4) (ret := none) (by decide) rfl ?_
  intro p e s m args below meth c s₁ B hml hv
  obtain ⟨rfl, hsz, hP, hK, hD0, hN, hT⟩ := hv
  have hx := B.exec
  have hb := B.bytes
  have hr := B.returns
  have hts : ∀ w ∈ tblG, w.before _ s = true := fun w h => atoms_spec (ws := (wsG yJ7_fill_53178 cJ7_fill_53178 4 none)) B.pre w (List.mem_cons_of_mem _ h)
  have hown : s.vm.findClass RJ7 = some m.cls := findClass_of_methodNamed B.named
  have hlocks := B.notSynchronized
  subst hsz
  have hD := hD0.self (sz := s.heap.size)
  generalize hAe : va_A [(a_0, .inl (G.2 0, 1536, .inl f_a))] s.heap.size = A at hD hT ⊢
  have hA : ∀ q : Nat, s.heap.size ≤ q → A q := fun q h => by rw [← hAe]; exact Or.inr h
  have hS : va_S A s.heap s.heap [] := va_S.rf
  have hP : va_P G.1 vwCl [(a_0, .inl (G.2 0, 1536, .inl f_a))] s.heap := hP
  have hl := lv_entry ([.ref a_0, .int 0]) (n := 4) (Nat.le_of_ble_eq_true rfl)
  rw [lg_entry_eq]
  generalize (lg_sl ([.ref a_0, .int 0]) ++ List.replicate (4 - (lg_sl ([.ref a_0, .int 0])).length) Slot.unset).toArray = ls at hl ⊢
  have hl : lv_has ls 4 [(0, .ref a_0), (1, .int 0)] := hl
  refine lv_iconst (v := 0) hx hb dJ7_fill_53178_0 (by decide) ?_
  refine lv_istore_n (lv' := [(2, .int 0), (0, .ref a_0), (1, .int 0)]) hx hb dJ7_fill_53178_1 rfl hl (by decide) rfl (fun ls hl => ?_)
  refine lv_aload_n hx hb dJ7_fill_53178_2 rfl (lv_at hl 1 rfl) ?_
  refine va_alen hx hb hK hP 0 0 rfl rfl (v := 1536) (by show Int32.ofNat 1536 = 1536; decide) dJ7_fill_53178_3 ?_
  refine lv_istore_n (lv' := [(3, .int 1536), (2, .int 0), (0, .ref a_0), (1, .int 0)]) hx hb dJ7_fill_53178_4 rfl hl (by decide) rfl (fun ls hl => ?_)
  refine g5_loop (α := (Int32) × (Nat → Int32)) (fun (q : (Int32) × (Nat → Int32)) (ls : Array Slot) (H : Heap) (locs : List Loc) => match q with | (k_i, k_f) => lv_has ls 4 [(2, .int k_i), (3, .int 1536), (0, .ref a_0), (1, .int 0)] ∧ va_P G.1 vwCl [(a_0, .inl (G.2 0, 1536, .inl k_f))] H ∧ va_D A [(a_0, .inl (G.2 0, 1536, .inl k_f))] ∧ va_S A s.heap H locs ∧ (0 ≤ k_i.toInt ∧ k_i.toInt ≤ 1536) ∧ (∀ j : Nat, (j : Int) < k_i.toInt → k_f j = (fun _ => 0) j)) (fun (q : (Int32) × (Nat → Int32)) => match q with | (k_i, k_f) => Int.toNat (1536 - k_i.toInt)) (0, f_a) ⟨lv_sub hl [1, 0, 2, 3] rfl, hP, hD, hS, ⟨by decide, by decide⟩, fun j h => absurd h (by have z : (0 : Int32).toInt = 0 := (by decide); omega)⟩ ?_
  rintro ⟨k_i, k_f⟩ ls H locs ⟨hl, hP, hD, hS, i_1, i_2⟩ ih_5_3
  have hl : lv_has ls 4 [(2, .int k_i), (3, .int 1536), (0, .ref a_0), (1, .int 0)] := hl
  have i_1 : 0 ≤ k_i.toInt ∧ k_i.toInt ≤ 1536 := i_1
  have i_2 : ∀ j : Nat, (j : Int) < k_i.toInt → k_f j = (fun _ => 0) j := i_2
  have hP : va_P G.1 vwCl [(a_0, .inl (G.2 0, 1536, .inl k_f))] H := hP
  have hD : va_D A [(a_0, .inl (G.2 0, 1536, .inl k_f))] := hD
  refine lv_iload_n hx hb dJ7_fill_53178_5 rfl (lv_at hl 0 rfl) ?_
  refine lv_iload_n hx hb dJ7_fill_53178_6 rfl (lv_at hl 1 rfl) ?_
  refine lv_icmp_ge (tgt := 20) hx hb dJ7_fill_53178_7 (by decide) (fun c_4 => ?_) (fun c_4 => ?_)
  ·
    have i_4 : k_i.toInt ≥ 1536 := by have z := g5_ge (a := k_i.toInt) (b := 1536) (by rfl) (by decide) c_4; omega
    obtain ⟨hP, hD⟩ := g5_cvI hP hD 0 (f := k_f) (g := (fun _ => 0)) rfl (fun j h => i_2 j (by omega))
    have hP : va_P G.1 vwCl [(a_0, .inl (G.2 0, 1536, .inl (fun _ => 0)))] H := hP
    have hD : va_D A [(a_0, .inl (G.2 0, 1536, .inl (fun _ => 0)))] := hD
    exact W.vret hx hb hr (fun t ht hW => ⟨⟨[(a_0, .inl (G.2 0, 1536, .inl (fun _ => 0)))], rfl, rfl, by rw [ht]; exact hP.sub [0] rfl, hD.sub [0] (by decide) rfl⟩, hS.F ht⟩) hS.2.2 dJ7_fill_53178_20
  ·
    have i_4 : k_i.toInt < 1536 := by have z := g5_geN (a := k_i.toInt) (b := 1536) (by rfl) (by decide) c_4; omega
    refine lv_aload_n hx hb dJ7_fill_53178_10 rfl (lv_at hl 2 rfl) ?_
    refine lv_iload_n hx hb dJ7_fill_53178_11 rfl (lv_at hl 0 rfl) ?_
    refine lv_iload_n hx hb dJ7_fill_53178_12 rfl (lv_at hl 3 rfl) ?_
    refine va_iast hx hb hK hP hD hS 0 0 rfl rfl (i := k_i) (x := 0) (vp_in_iff.mpr ⟨by omega, by omega⟩) dJ7_fill_53178_13 (fun H locs hP hD hS => ?_)
    have hP : va_P G.1 vwCl [(a_0, .inl (G.2 0, 1536, .inl (upd k_f k_i.toNatClampNeg 0)))] H := hP
    have hD : va_D A [(a_0, .inl (G.2 0, 1536, .inl (upd k_f k_i.toNatClampNeg 0)))] := hD
    refine lv_iinc (v := (k_i + 1)) (lv' := [(2, .int (k_i + 1)), (3, .int 1536), (0, .ref a_0), (1, .int 0)]) hx hb dJ7_fill_53178_14 hl (k := 0) rfl rfl (by decide) rfl (fun ls hl => ?_)
    have t_5 : (k_i + 1).toInt = k_i.toInt + 1 := g5_iadd (a := k_i.toInt) (b := 1) rfl (by decide) (by omega) (by omega)
    refine lv_goto (tgt := 5) hx hb dJ7_fill_53178_17 (by decide) ?_
    exact ih_5_3 ((k_i + 1), (upd k_f k_i.toNatClampNeg 0)) ls H locs (show Int.toNat (1536 - (k_i + 1).toInt) < Int.toNat (1536 - k_i.toInt) by omega) ⟨lv_sub hl [0, 1, 2, 3] rfl, hP, hD, hS, ⟨by omega, by omega⟩, g5_fillI i_2 (by omega) (by omega) rfl⟩
set_option maxHeartbeats 4000000 in
set_option maxRecDepth 100000 in
theorem k_fillJ2048 (l : Launch) (G : g5_G) (a_0 : Nat) (sz : Nat) (f_a : Nat → Int64) : Met l yJ7_fill_d0a16 (wsG yJ7_fill_d0a16 cJ7_fill_d0a16 5 none) ({ frames := 0, cells := 0, slots := 0, locals := 0 }) (va_Pc [.ref a_0, .long 0] (g5_P G [(a_0, .inl (G.2 1, 2048, .inr (.inl f_a)))] sz)) (va_Qv (fun (u : va_W) => ((u = [(a_0, .inl (G.2 1, 2048, .inr (.inl (fun _ => 0))))]))) (g5_B G (va_A [(a_0, .inl (G.2 1, 2048, .inr (.inl f_a)))] sz)) (va_A [(a_0, .inl (G.2 1, 2048, .inr (.inl f_a)))] sz)) 0 0 (va_A [(a_0, .inl (G.2 1, 2048, .inr (.inl f_a)))] sz) := by
  refine Met.ofW (cc := cJ7_fill_d0a16) (maxL := 5) (ret := none) (by decide) rfl ?_
  intro p e s m args below meth c s₁ B hml hv
  obtain ⟨rfl, hsz, hP, hK, hD0, hN, hT⟩ := hv
  have hx := B.exec
  have hb := B.bytes
  have hr := B.returns
  have hts : ∀ w ∈ tblG, w.before _ s = true := fun w h => atoms_spec (ws := (wsG yJ7_fill_d0a16 cJ7_fill_d0a16 5 none)) B.pre w (List.mem_cons_of_mem _ h)
  have hown : s.vm.findClass RJ7 = some m.cls := findClass_of_methodNamed B.named
  have hlocks := B.notSynchronized
  subst hsz
  have hD := hD0.self (sz := s.heap.size)
  generalize hAe : va_A [(a_0, .inl (G.2 1, 2048, .inr (.inl f_a)))] s.heap.size = A at hD hT ⊢
  have hA : ∀ q : Nat, s.heap.size ≤ q → A q := fun q h => by rw [← hAe]; exact Or.inr h
  have hS : va_S A s.heap s.heap [] := va_S.rf
  have hP : va_P G.1 vwCl [(a_0, .inl (G.2 1, 2048, .inr (.inl f_a)))] s.heap := hP
  have hl := lv_entry ([.ref a_0, .long 0]) (n := 5) (Nat.le_of_ble_eq_true rfl)
  rw [lg_entry_eq]
  generalize (lg_sl ([.ref a_0, .long 0]) ++ List.replicate (5 - (lg_sl ([.ref a_0, .long 0])).length) Slot.unset).toArray = ls at hl ⊢
  have hl : lv_has ls 5 [(0, .ref a_0), (1, .long 0)] := hl
  refine lv_iconst (v := 0) hx hb dJ7_fill_d0a16_0 (by decide) ?_
  refine lv_istore_n (lv' := [(3, .int 0), (0, .ref a_0), (1, .long 0)]) hx hb dJ7_fill_d0a16_1 rfl hl (by decide) rfl (fun ls hl => ?_)
  refine lv_aload_n hx hb dJ7_fill_d0a16_2 rfl (lv_at hl 1 rfl) ?_
  refine va_alen hx hb hK hP 0 1 rfl rfl (v := 2048) (by show Int32.ofNat 2048 = 2048; decide) dJ7_fill_d0a16_3 ?_
  refine lv_istore (lv' := [(4, .int 2048), (3, .int 0), (0, .ref a_0), (1, .long 0)]) hx hb dJ7_fill_d0a16_4 hl (by decide) rfl (fun ls hl => ?_)
  refine g5_loop (α := (Int32) × (Nat → Int64)) (fun (q : (Int32) × (Nat → Int64)) (ls : Array Slot) (H : Heap) (locs : List Loc) => match q with | (k_i, k_f) => lv_has ls 5 [(3, .int k_i), (4, .int 2048), (0, .ref a_0), (1, .long 0)] ∧ va_P G.1 vwCl [(a_0, .inl (G.2 1, 2048, .inr (.inl k_f)))] H ∧ va_D A [(a_0, .inl (G.2 1, 2048, .inr (.inl k_f)))] ∧ va_S A s.heap H locs ∧ (0 ≤ k_i.toInt ∧ k_i.toInt ≤ 2048) ∧ (∀ j : Nat, (j : Int) < k_i.toInt → k_f j = (fun _ => 0) j)) (fun (q : (Int32) × (Nat → Int64)) => match q with | (k_i, k_f) => Int.toNat (2048 - k_i.toInt)) (0, f_a) ⟨lv_sub hl [1, 0, 2, 3] rfl, hP, hD, hS, ⟨by decide, by decide⟩, fun j h => absurd h (by have z : (0 : Int32).toInt = 0 := (by decide); omega)⟩ ?_
  rintro ⟨k_i, k_f⟩ ls H locs ⟨hl, hP, hD, hS, i_1, i_2⟩ ih_6_3
  have hl : lv_has ls 5 [(3, .int k_i), (4, .int 2048), (0, .ref a_0), (1, .long 0)] := hl
  have i_1 : 0 ≤ k_i.toInt ∧ k_i.toInt ≤ 2048 := i_1
  have i_2 : ∀ j : Nat, (j : Int) < k_i.toInt → k_f j = (fun _ => 0) j := i_2
  have hP : va_P G.1 vwCl [(a_0, .inl (G.2 1, 2048, .inr (.inl k_f)))] H := hP
  have hD : va_D A [(a_0, .inl (G.2 1, 2048, .inr (.inl k_f)))] := hD
  refine lv_iload_n hx hb dJ7_fill_d0a16_6 rfl (lv_at hl 0 rfl) ?_
  refine lv_iload hx hb dJ7_fill_d0a16_7 (lv_at hl 1 rfl) ?_
  refine lv_icmp_ge (tgt := 22) hx hb dJ7_fill_d0a16_9 (by decide) (fun c_4 => ?_) (fun c_4 => ?_)
  ·
    have i_4 : k_i.toInt ≥ 2048 := by have z := g5_ge (a := k_i.toInt) (b := 2048) (by rfl) (by decide) c_4; omega
    obtain ⟨hP, hD⟩ := g5_cvJ hP hD 0 (f := k_f) (g := (fun _ => 0)) rfl (fun j h => i_2 j (by omega))
    have hP : va_P G.1 vwCl [(a_0, .inl (G.2 1, 2048, .inr (.inl (fun _ => 0))))] H := hP
    have hD : va_D A [(a_0, .inl (G.2 1, 2048, .inr (.inl (fun _ => 0))))] := hD
    exact W.vret hx hb hr (fun t ht hW => ⟨⟨[(a_0, .inl (G.2 1, 2048, .inr (.inl (fun _ => 0))))], rfl, rfl, by rw [ht]; exact hP.sub [0] rfl, hD.sub [0] (by decide) rfl⟩, hS.F ht⟩) hS.2.2 dJ7_fill_d0a16_22
  ·
    have i_4 : k_i.toInt < 2048 := by have z := g5_geN (a := k_i.toInt) (b := 2048) (by rfl) (by decide) c_4; omega
    refine lv_aload_n hx hb dJ7_fill_d0a16_12 rfl (lv_at hl 2 rfl) ?_
    refine lv_iload_n hx hb dJ7_fill_d0a16_13 rfl (lv_at hl 0 rfl) ?_
    refine lv_lload_n hx hb dJ7_fill_d0a16_14 rfl (lv_at hl 3 rfl) ?_
    refine va_last hx hb hK hP hD hS 0 1 rfl rfl (i := k_i) (x := 0) (vp_in_iff.mpr ⟨by omega, by omega⟩) dJ7_fill_d0a16_15 (fun H locs hP hD hS => ?_)
    have hP : va_P G.1 vwCl [(a_0, .inl (G.2 1, 2048, .inr (.inl (vp_updL k_f k_i.toNatClampNeg 0))))] H := hP
    have hD : va_D A [(a_0, .inl (G.2 1, 2048, .inr (.inl (vp_updL k_f k_i.toNatClampNeg 0))))] := hD
    refine lv_iinc (v := (k_i + 1)) (lv' := [(3, .int (k_i + 1)), (4, .int 2048), (0, .ref a_0), (1, .long 0)]) hx hb dJ7_fill_d0a16_16 hl (k := 0) rfl rfl (by decide) rfl (fun ls hl => ?_)
    have t_5 : (k_i + 1).toInt = k_i.toInt + 1 := g5_iadd (a := k_i.toInt) (b := 1) rfl (by decide) (by omega) (by omega)
    refine lv_goto (tgt := 6) hx hb dJ7_fill_d0a16_19 (by decide) ?_
    exact ih_6_3 ((k_i + 1), (vp_updL k_f k_i.toNatClampNeg 0)) ls H locs (show Int.toNat (2048 - (k_i + 1).toInt) < Int.toNat (2048 - k_i.toInt) by omega) ⟨lv_sub hl [0, 1, 2, 3] rfl, hP, hD, hS, ⟨by omega, by omega⟩, g5_fillJ i_2 (by omega) (by omega) rfl⟩
theorem dX7_stepTo_0 : decode cX7_stepTo 0 = .ok (.aload_n 0, 1) := by decide +kernel
theorem dX7_stepTo_1 : decode cX7_stepTo 1 = .ok (.getfield 89, 3) := by decide +kernel
theorem dX7_stepTo_4 : decode cX7_stepTo 4 = .ok (.iconst 1, 1) := by decide +kernel
theorem dX7_stepTo_5 : decode cX7_stepTo 5 = .ok (.iadd, 1) := by decide +kernel
theorem dX7_stepTo_6 : decode cX7_stepTo 6 = .ok (.istore_n 2, 1) := by decide +kernel
theorem dX7_stepTo_7 : decode cX7_stepTo 7 = .ok (.iconst 0, 1) := by decide +kernel
theorem dX7_stepTo_8 : decode cX7_stepTo 8 = .ok (.istore_n 3, 1) := by decide +kernel
theorem dX7_stepTo_9 : decode cX7_stepTo 9 = .ok (.iload_n 3, 1) := by decide +kernel
theorem dX7_stepTo_10 : decode cX7_stepTo 10 = .ok (.bipush 64, 2) := by decide +kernel
theorem dX7_stepTo_12 : decode cX7_stepTo 12 = .ok (.if_icmp .ge 135, 3) := by decide +kernel
theorem dX7_stepTo_15 : decode cX7_stepTo 15 = .ok (.iconst 0, 1) := by decide +kernel
theorem dX7_stepTo_16 : decode cX7_stepTo 16 = .ok (.istore 4, 2) := by decide +kernel
theorem dX7_stepTo_18 : decode cX7_stepTo 18 = .ok (.iload 4, 2) := by decide +kernel
theorem dX7_stepTo_20 : decode cX7_stepTo 20 = .ok (.iload_n 2, 1) := by decide +kernel
theorem dX7_stepTo_21 : decode cX7_stepTo 21 = .ok (.if_icmp .ge 21, 3) := by decide +kernel
theorem dX7_stepTo_24 : decode cX7_stepTo 24 = .ok (.aload_n 0, 1) := by decide +kernel
theorem dX7_stepTo_25 : decode cX7_stepTo 25 = .ok (.getfield 22, 3) := by decide +kernel
theorem dX7_stepTo_28 : decode cX7_stepTo 28 = .ok (.iload_n 3, 1) := by decide +kernel
theorem dX7_stepTo_29 : decode cX7_stepTo 29 = .ok (.iload_n 2, 1) := by decide +kernel
theorem dX7_stepTo_30 : decode cX7_stepTo 30 = .ok (.imul, 1) := by decide +kernel
theorem dX7_stepTo_31 : decode cX7_stepTo 31 = .ok (.iload 4, 2) := by decide +kernel
theorem dX7_stepTo_33 : decode cX7_stepTo 33 = .ok (.iadd, 1) := by decide +kernel
theorem dX7_stepTo_34 : decode cX7_stepTo 34 = .ok (.lconst 0, 1) := by decide +kernel
theorem dX7_stepTo_35 : decode cX7_stepTo 35 = .ok (.lastore, 1) := by decide +kernel
theorem dX7_stepTo_36 : decode cX7_stepTo 36 = .ok (.iinc 4 1, 3) := by decide +kernel
theorem dX7_stepTo_39 : decode cX7_stepTo 39 = .ok (.goto (-21), 3) := by decide +kernel
theorem dX7_stepTo_42 : decode cX7_stepTo 42 = .ok (.aload_n 0, 1) := by decide +kernel
theorem dX7_stepTo_43 : decode cX7_stepTo 43 = .ok (.getfield 15, 3) := by decide +kernel
theorem dX7_stepTo_46 : decode cX7_stepTo 46 = .ok (.iload_n 1, 1) := by decide +kernel
theorem dX7_stepTo_47 : decode cX7_stepTo 47 = .ok (.bipush 64, 2) := by decide +kernel
theorem dX7_stepTo_49 : decode cX7_stepTo 49 = .ok (.imul, 1) := by decide +kernel
theorem dX7_stepTo_50 : decode cX7_stepTo 50 = .ok (.iload_n 3, 1) := by decide +kernel
theorem dX7_stepTo_51 : decode cX7_stepTo 51 = .ok (.iadd, 1) := by decide +kernel
theorem dX7_stepTo_52 : decode cX7_stepTo 52 = .ok (.iaload, 1) := by decide +kernel
theorem dX7_stepTo_53 : decode cX7_stepTo 53 = .ok (.istore 4, 2) := by decide +kernel
theorem dX7_stepTo_55 : decode cX7_stepTo 55 = .ok (.iconst 0, 1) := by decide +kernel
theorem dX7_stepTo_56 : decode cX7_stepTo 56 = .ok (.istore 5, 2) := by decide +kernel
theorem dX7_stepTo_58 : decode cX7_stepTo 58 = .ok (.iload 5, 2) := by decide +kernel
theorem dX7_stepTo_60 : decode cX7_stepTo 60 = .ok (.iconst 4, 1) := by decide +kernel
theorem dX7_stepTo_61 : decode cX7_stepTo 61 = .ok (.if_icmp .gt 80, 3) := by decide +kernel
theorem dX7_stepTo_64 : decode cX7_stepTo 64 = .ok (.aload_n 0, 1) := by decide +kernel
theorem dX7_stepTo_65 : decode cX7_stepTo 65 = .ok (.getfield 9, 3) := by decide +kernel
theorem dX7_stepTo_68 : decode cX7_stepTo 68 = .ok (.iload_n 1, 1) := by decide +kernel
theorem dX7_stepTo_69 : decode cX7_stepTo 69 = .ok (.laload, 1) := by decide +kernel
theorem dX7_stepTo_70 : decode cX7_stepTo 70 = .ok (.iload_n 3, 1) := by decide +kernel
theorem dX7_stepTo_71 : decode cX7_stepTo 71 = .ok (.invokestatic 98, 3) := by decide +kernel
theorem dX7_stepTo_74 : decode cX7_stepTo 74 = .ok (.ifCond .ne 67, 3) := by decide +kernel
theorem dX7_stepTo_77 : decode cX7_stepTo 77 = .ok (.iload_n 3, 1) := by decide +kernel
theorem dX7_stepTo_78 : decode cX7_stepTo 78 = .ok (.iload 5, 2) := by decide +kernel
theorem dX7_stepTo_80 : decode cX7_stepTo 80 = .ok (.invokestatic 105, 3) := by decide +kernel
theorem dX7_stepTo_83 : decode cX7_stepTo 83 = .ok (.istore 6, 2) := by decide +kernel
theorem dX7_stepTo_85 : decode cX7_stepTo 85 = .ok (.iconst 0, 1) := by decide +kernel
theorem dX7_stepTo_86 : decode cX7_stepTo 86 = .ok (.istore 7, 2) := by decide +kernel
theorem dX7_stepTo_88 : decode cX7_stepTo 88 = .ok (.iload 7, 2) := by decide +kernel
theorem dX7_stepTo_90 : decode cX7_stepTo 90 = .ok (.iload_n 2, 1) := by decide +kernel
theorem dX7_stepTo_91 : decode cX7_stepTo 91 = .ok (.if_icmp .ge 44, 3) := by decide +kernel
theorem dX7_stepTo_94 : decode cX7_stepTo 94 = .ok (.iload 6, 2) := by decide +kernel
theorem dX7_stepTo_96 : decode cX7_stepTo 96 = .ok (.iconst (-1), 1) := by decide +kernel
theorem dX7_stepTo_97 : decode cX7_stepTo 97 = .ok (.if_icmp .eq 38, 3) := by decide +kernel
theorem dX7_stepTo_100 : decode cX7_stepTo 100 = .ok (.aload_n 0, 1) := by decide +kernel
theorem dX7_stepTo_101 : decode cX7_stepTo 101 = .ok (.getfield 22, 3) := by decide +kernel
theorem dX7_stepTo_104 : decode cX7_stepTo 104 = .ok (.iload_n 3, 1) := by decide +kernel
theorem dX7_stepTo_105 : decode cX7_stepTo 105 = .ok (.iload_n 2, 1) := by decide +kernel
theorem dX7_stepTo_106 : decode cX7_stepTo 106 = .ok (.imul, 1) := by decide +kernel
theorem dX7_stepTo_107 : decode cX7_stepTo 107 = .ok (.iload 7, 2) := by decide +kernel
theorem dX7_stepTo_109 : decode cX7_stepTo 109 = .ok (.iload 4, 2) := by decide +kernel
theorem dX7_stepTo_111 : decode cX7_stepTo 111 = .ok (.ior, 1) := by decide +kernel
theorem dX7_stepTo_112 : decode cX7_stepTo 112 = .ok (.iadd, 1) := by decide +kernel
theorem dX7_stepTo_113 : decode cX7_stepTo 113 = .ok (.dup2, 1) := by decide +kernel
theorem dX7_stepTo_114 : decode cX7_stepTo 114 = .ok (.laload, 1) := by decide +kernel
theorem dX7_stepTo_115 : decode cX7_stepTo 115 = .ok (.aload_n 0, 1) := by decide +kernel
theorem dX7_stepTo_116 : decode cX7_stepTo 116 = .ok (.getfield 19, 3) := by decide +kernel
theorem dX7_stepTo_119 : decode cX7_stepTo 119 = .ok (.iload 6, 2) := by decide +kernel
theorem dX7_stepTo_121 : decode cX7_stepTo 121 = .ok (.iload_n 2, 1) := by decide +kernel
theorem dX7_stepTo_122 : decode cX7_stepTo 122 = .ok (.imul, 1) := by decide +kernel
theorem dX7_stepTo_123 : decode cX7_stepTo 123 = .ok (.iload 7, 2) := by decide +kernel
theorem dX7_stepTo_125 : decode cX7_stepTo 125 = .ok (.iadd, 1) := by decide +kernel
theorem dX7_stepTo_126 : decode cX7_stepTo 126 = .ok (.laload, 1) := by decide +kernel
theorem dX7_stepTo_127 : decode cX7_stepTo 127 = .ok (.ladd, 1) := by decide +kernel
theorem dX7_stepTo_128 : decode cX7_stepTo 128 = .ok (.lastore, 1) := by decide +kernel
theorem dX7_stepTo_129 : decode cX7_stepTo 129 = .ok (.iinc 7 1, 3) := by decide +kernel
theorem dX7_stepTo_132 : decode cX7_stepTo 132 = .ok (.goto (-44), 3) := by decide +kernel
theorem dX7_stepTo_135 : decode cX7_stepTo 135 = .ok (.iinc 5 1, 3) := by decide +kernel
theorem dX7_stepTo_138 : decode cX7_stepTo 138 = .ok (.goto (-80), 3) := by decide +kernel
theorem dX7_stepTo_141 : decode cX7_stepTo 141 = .ok (.iinc 3 1, 3) := by decide +kernel
theorem dX7_stepTo_144 : decode cX7_stepTo 144 = .ok (.goto (-135), 3) := by decide +kernel
theorem dX7_stepTo_147 : decode cX7_stepTo 147 = .ok (.aload_n 0, 1) := by decide +kernel
theorem dX7_stepTo_148 : decode cX7_stepTo 148 = .ok (.getfield 19, 3) := by decide +kernel
theorem dX7_stepTo_151 : decode cX7_stepTo 151 = .ok (.astore_n 3, 1) := by decide +kernel
theorem dX7_stepTo_152 : decode cX7_stepTo 152 = .ok (.aload_n 0, 1) := by decide +kernel
theorem dX7_stepTo_153 : decode cX7_stepTo 153 = .ok (.aload_n 0, 1) := by decide +kernel
theorem dX7_stepTo_154 : decode cX7_stepTo 154 = .ok (.getfield 22, 3) := by decide +kernel
theorem dX7_stepTo_157 : decode cX7_stepTo 157 = .ok (.putfield 19, 3) := by decide +kernel
theorem dX7_stepTo_160 : decode cX7_stepTo 160 = .ok (.aload_n 0, 1) := by decide +kernel
theorem dX7_stepTo_161 : decode cX7_stepTo 161 = .ok (.aload_n 3, 1) := by decide +kernel
theorem dX7_stepTo_162 : decode cX7_stepTo 162 = .ok (.putfield 22, 3) := by decide +kernel
theorem dX7_stepTo_165 : decode cX7_stepTo 165 = .ok (.return_, 1) := by decide +kernel
theorem fl_X7_89 : Cond.fieldLink RX7 89 "LateGlass$Thief" "full" "I" ∈ tblG := tg 322 (by decide +kernel) (by decide +kernel)
set_option maxHeartbeats 4000000 in
set_option maxRecDepth 100000 in
theorem k_stepTo (l : Launch) (G : g5_G) (a_49 a_50 a_51 a_52 a_53 a_1 a_42 a_54 a_55 a_56 : Nat) (sz : Nat) (p_h : Int32) (f_b : Nat → Int64) (f_c : Nat → Int64) (f_n : Nat → Int64) (n_0 : Nat) (n_1 : Nat) (h_p_h : 1 ≤ p_h.toInt ∧ p_h.toInt ≤ 23) (e_1 : p_h.toInt = (n_1 : Int)) (e_2 : n_1 = n_0 + 1) (e_3 : ∀ j : Nat, j < 64 → f_c j = itF f_b n_0 j) : Met l yX7_stepTo (wsG yX7_stepTo cX7_stepTo 8 none) ({ frames := 1, cells := 0, slots := 0, locals := 22 }) (va_Pc [.ref a_49, .int p_h] (g5_P G [(a_49, .inr (7, [.ref a_1, .ref a_42, .ref a_50, .ref a_51, .int 0, .ref a_52, .ref a_53, .ref a_54, .ref a_55, .ref a_56])), (a_50, .inl (G.2 1, 24, .inr (.inl f_b))), (a_51, .inl (G.2 0, 1536, .inl (fun _ => 0))), (a_52, .inl (G.2 1, 2048, .inr (.inl f_c))), (a_53, .inl (G.2 1, 2048, .inr (.inl f_n)))] sz)) (va_Qv (fun (u : va_W) => (∃ (o_f : Nat → Int64), (∀ j : Nat, j < 64 → o_f j = itF f_b n_1 j) ∧ (u = [(a_49, .inr (7, [.ref a_1, .ref a_42, .ref a_50, .ref a_51, .int 0, .ref a_53, .ref a_52, .ref a_54, .ref a_55, .ref a_56])), (a_50, .inl (G.2 1, 24, .inr (.inl f_b))), (a_51, .inl (G.2 0, 1536, .inl (fun _ => 0))), (a_53, .inl (G.2 1, 2048, .inr (.inl o_f))), (a_52, .inl (G.2 1, 2048, .inr (.inl f_c)))]))) (g5_B G (va_A [(a_49, .inr (7, [.ref a_1, .ref a_42, .ref a_50, .ref a_51, .int 0, .ref a_52, .ref a_53, .ref a_54, .ref a_55, .ref a_56])), (a_50, .inl (G.2 1, 24, .inr (.inl f_b))), (a_51, .inl (G.2 0, 1536, .inl (fun _ => 0))), (a_52, .inl (G.2 1, 2048, .inr (.inl f_c))), (a_53, .inl (G.2 1, 2048, .inr (.inl f_n)))] sz)) (va_A [(a_49, .inr (7, [.ref a_1, .ref a_42, .ref a_50, .ref a_51, .int 0, .ref a_52, .ref a_53, .ref a_54, .ref a_55, .ref a_56])), (a_50, .inl (G.2 1, 24, .inr (.inl f_b))), (a_51, .inl (G.2 0, 1536, .inl (fun _ => 0))), (a_52, .inl (G.2 1, 2048, .inr (.inl f_c))), (a_53, .inl (G.2 1, 2048, .inr (.inl f_n)))] sz)) 0 0 (va_A [(a_49, .inr (7, [.ref a_1, .ref a_42, .ref a_50, .ref a_51, .int 0, .ref a_52, .ref a_53, .ref a_54, .ref a_55, .ref a_56])), (a_50, .inl (G.2 1, 24, .inr (.inl f_b))), (a_51, .inl (G.2 0, 1536, .inl (fun _ => 0))), (a_52, .inl (G.2 1, 2048, .inr (.inl f_c))), (a_53, .inl (G.2 1, 2048, .inr (.inl f_n)))] sz) := by
  refine Met.ofW (cc := cX7_stepTo) (maxL := 8) (ret := none) (by decide) rfl ?_
  intro p e s m args below meth c s₁ B hml hv
  obtain ⟨rfl, hsz, hP, hK, hD0, hN, hT⟩ := hv
  have hx := B.exec
  have hb := B.bytes
  have hr := B.returns
  have hts : ∀ w ∈ tblG, w.before _ s = true := fun w h => atoms_spec (ws := (wsG yX7_stepTo cX7_stepTo 8 none)) B.pre w (List.mem_cons_of_mem _ h)
  have hown : s.vm.findClass RX7 = some m.cls := findClass_of_methodNamed B.named
  have hlocks := B.notSynchronized
  subst hsz
  have hD := hD0.self (sz := s.heap.size)
  generalize hAe : va_A [(a_49, .inr (7, [.ref a_1, .ref a_42, .ref a_50, .ref a_51, .int 0, .ref a_52, .ref a_53, .ref a_54, .ref a_55, .ref a_56])), (a_50, .inl (G.2 1, 24, .inr (.inl f_b))), (a_51, .inl (G.2 0, 1536, .inl (fun _ => 0))), (a_52, .inl (G.2 1, 2048, .inr (.inl f_c))), (a_53, .inl (G.2 1, 2048, .inr (.inl f_n)))] s.heap.size = A at hD hT ⊢
  have hA : ∀ q : Nat, s.heap.size ≤ q → A q := fun q h => by rw [← hAe]; exact Or.inr h
  have hS : va_S A s.heap s.heap [] := va_S.rf
  have hP : va_P G.1 vwCl [(a_49, .inr (7, [.ref a_1, .ref a_42, .ref a_50, .ref a_51, .int 0, .ref a_52, .ref a_53, .ref a_54, .ref a_55, .ref a_56])), (a_50, .inl (G.2 1, 24, .inr (.inl f_b))), (a_51, .inl (G.2 0, 1536, .inl (fun _ => 0))), (a_52, .inl (G.2 1, 2048, .inr (.inl f_c))), (a_53, .inl (G.2 1, 2048, .inr (.inl f_n)))] s.heap := hP
  have hl := lv_entry ([.ref a_49, .int p_h]) (n := 8) (Nat.le_of_ble_eq_true rfl)
  rw [lg_entry_eq]
  generalize (lg_sl ([.ref a_49, .int p_h]) ++ List.replicate (8 - (lg_sl ([.ref a_49, .int p_h])).length) Slot.unset).toArray = ls at hl ⊢
  have hl : lv_has ls 8 [(0, .ref a_49), (1, .int p_h)] := hl
  refine lv_aload_n hx hb dX7_stepTo_0 rfl (lv_at hl 0 rfl) ?_
  refine va_get (D := G.1) (ci := 7) (v := .int 0) (C := RX7) (T := TX7) (N := 10) hx hb hts inG_X7 hown hK hP 0 rfl rfl 4 (by decide) (hts _ fl_X7_89) (fun _ h9 => h9) rfl dX7_stepTo_1 ?_
  refine lv_iconst (v := 1) hx hb dX7_stepTo_4 (by decide) ?_
  refine lv_iadd hx hb dX7_stepTo_5 ?_
  refine g5_ti (v := 1) (by decide) ?_
  refine lv_istore_n (lv' := [(2, .int 1), (0, .ref a_49), (1, .int p_h)]) hx hb dX7_stepTo_6 rfl hl (by decide) rfl (fun ls hl => ?_)
  refine lv_iconst (v := 0) hx hb dX7_stepTo_7 (by decide) ?_
  refine lv_istore_n (lv' := [(3, .int 0), (2, .int 1), (0, .ref a_49), (1, .int p_h)]) hx hb dX7_stepTo_8 rfl hl (by decide) rfl (fun ls hl => ?_)
  refine g5_loop (α := (Int32) × (Nat → Int64)) (fun (q : (Int32) × (Nat → Int64)) (ls : Array Slot) (H : Heap) (locs : List Loc) => match q with | (k_c, k_f) => lv_has ls 8 [(3, .int k_c), (2, .int 1), (0, .ref a_49), (1, .int p_h)] ∧ va_P G.1 vwCl [(a_49, .inr (7, [.ref a_1, .ref a_42, .ref a_50, .ref a_51, .int 0, .ref a_52, .ref a_53, .ref a_54, .ref a_55, .ref a_56])), (a_50, .inl (G.2 1, 24, .inr (.inl f_b))), (a_51, .inl (G.2 0, 1536, .inl (fun _ => 0))), (a_52, .inl (G.2 1, 2048, .inr (.inl f_c))), (a_53, .inl (G.2 1, 2048, .inr (.inl k_f)))] H ∧ va_D A [(a_49, .inr (7, [.ref a_1, .ref a_42, .ref a_50, .ref a_51, .int 0, .ref a_52, .ref a_53, .ref a_54, .ref a_55, .ref a_56])), (a_50, .inl (G.2 1, 24, .inr (.inl f_b))), (a_51, .inl (G.2 0, 1536, .inl (fun _ => 0))), (a_52, .inl (G.2 1, 2048, .inr (.inl f_c))), (a_53, .inl (G.2 1, 2048, .inr (.inl k_f)))] ∧ va_S A s.heap H locs ∧ (0 ≤ k_c.toInt ∧ k_c.toInt ≤ 64) ∧ (∀ j : Nat, (j : Int) < k_c.toInt → k_f j = stepF f_c (f_b p_h.toNatClampNeg) j)) (fun (q : (Int32) × (Nat → Int64)) => match q with | (k_c, k_f) => Int.toNat (64 - k_c.toInt)) (0, f_n) ⟨lv_sub hl [0, 1, 2, 3] rfl, hP, hD, hS, ⟨by decide, by decide⟩, fun j h => absurd h (by have z : (0 : Int32).toInt = 0 := (by decide); omega)⟩ ?_
  rintro ⟨k_c, k_f⟩ ls H locs ⟨hl, hP, hD, hS, i_1, i_2⟩ ih_9_3
  have hl : lv_has ls 8 [(3, .int k_c), (2, .int 1), (0, .ref a_49), (1, .int p_h)] := hl
  have i_1 : 0 ≤ k_c.toInt ∧ k_c.toInt ≤ 64 := i_1
  have i_2 : ∀ j : Nat, (j : Int) < k_c.toInt → k_f j = stepF f_c (f_b p_h.toNatClampNeg) j := i_2
  have hP : va_P G.1 vwCl [(a_49, .inr (7, [.ref a_1, .ref a_42, .ref a_50, .ref a_51, .int 0, .ref a_52, .ref a_53, .ref a_54, .ref a_55, .ref a_56])), (a_50, .inl (G.2 1, 24, .inr (.inl f_b))), (a_51, .inl (G.2 0, 1536, .inl (fun _ => 0))), (a_52, .inl (G.2 1, 2048, .inr (.inl f_c))), (a_53, .inl (G.2 1, 2048, .inr (.inl k_f)))] H := hP
  have hD : va_D A [(a_49, .inr (7, [.ref a_1, .ref a_42, .ref a_50, .ref a_51, .int 0, .ref a_52, .ref a_53, .ref a_54, .ref a_55, .ref a_56])), (a_50, .inl (G.2 1, 24, .inr (.inl f_b))), (a_51, .inl (G.2 0, 1536, .inl (fun _ => 0))), (a_52, .inl (G.2 1, 2048, .inr (.inl f_c))), (a_53, .inl (G.2 1, 2048, .inr (.inl k_f)))] := hD
  refine lv_iload_n hx hb dX7_stepTo_9 rfl (lv_at hl 0 rfl) ?_
  refine lv_bipush (v := 64) hx hb dX7_stepTo_10 (by decide) ?_
  refine lv_icmp_ge (tgt := 147) hx hb dX7_stepTo_12 (by decide) (fun c_4 => ?_) (fun c_4 => ?_)
  ·
    have i_4 : k_c.toInt ≥ 64 := by have z := g5_ge (a := k_c.toInt) (b := 64) (by rfl) (by decide) c_4; omega
    refine lv_aload_n hx hb dX7_stepTo_147 rfl (lv_at hl 2 rfl) ?_
    refine va_get (D := G.1) (ci := 7) (v := .ref a_52) (C := RX7) (T := TX7) (N := 10) hx hb hts inG_X7 hown hK hP 0 rfl rfl 5 (by decide) (hts _ fl_X7_19) (fun _ h9 => h9) rfl dX7_stepTo_148 ?_
    refine lv_astore_n (lv' := [(3, .ref a_52), (2, .int 1), (0, .ref a_49), (1, .int p_h)]) hx hb dX7_stepTo_151 rfl hl (by decide) rfl (fun ls hl => ?_)
    refine lv_aload_n hx hb dX7_stepTo_152 rfl (lv_at hl 2 rfl) ?_
    refine lv_aload_n hx hb dX7_stepTo_153 rfl (lv_at hl 2 rfl) ?_
    refine va_get (D := G.1) (ci := 7) (v := .ref a_53) (C := RX7) (T := TX7) (N := 10) hx hb hts inG_X7 hown hK hP 0 rfl rfl 6 (by decide) (hts _ fl_X7_22) (fun _ h9 => h9) rfl dX7_stepTo_154 ?_
    refine va_put (D := G.1) (ci := 7) (v := .ref a_53) (ty := .array .long) (C := RX7) (T := TX7) (N := 10) hx hb hts inG_X7 tyX7 tyX7_ok nmX7 hown hK hP hD hS 0 rfl rfl 5 (by decide) (hts _ fl_X7_19) (fun _ h9 => h9) rfl (by decide +kernel) rfl rfl (Nat.le_of_ble_eq_true rfl) dX7_stepTo_157 (fun H locs hP hD hS => ?_)
    have hP : va_P G.1 vwCl [(a_49, .inr (7, [.ref a_1, .ref a_42, .ref a_50, .ref a_51, .int 0, .ref a_53, .ref a_53, .ref a_54, .ref a_55, .ref a_56])), (a_50, .inl (G.2 1, 24, .inr (.inl f_b))), (a_51, .inl (G.2 0, 1536, .inl (fun _ => 0))), (a_52, .inl (G.2 1, 2048, .inr (.inl f_c))), (a_53, .inl (G.2 1, 2048, .inr (.inl k_f)))] H := hP
    have hD : va_D A [(a_49, .inr (7, [.ref a_1, .ref a_42, .ref a_50, .ref a_51, .int 0, .ref a_53, .ref a_53, .ref a_54, .ref a_55, .ref a_56])), (a_50, .inl (G.2 1, 24, .inr (.inl f_b))), (a_51, .inl (G.2 0, 1536, .inl (fun _ => 0))), (a_52, .inl (G.2 1, 2048, .inr (.inl f_c))), (a_53, .inl (G.2 1, 2048, .inr (.inl k_f)))] := hD
    refine lv_aload_n hx hb dX7_stepTo_160 rfl (lv_at hl 2 rfl) ?_
    refine lv_aload_n hx hb dX7_stepTo_161 rfl (lv_at hl 0 rfl) ?_
    refine va_put (D := G.1) (ci := 7) (v := .ref a_52) (ty := .array .long) (C := RX7) (T := TX7) (N := 10) hx hb hts inG_X7 tyX7 tyX7_ok nmX7 hown hK hP hD hS 0 rfl rfl 6 (by decide) (hts _ fl_X7_22) (fun _ h9 => h9) rfl (by decide +kernel) rfl rfl (Nat.le_of_ble_eq_true rfl) dX7_stepTo_162 (fun H locs hP hD hS => ?_)
    have hP : va_P G.1 vwCl [(a_49, .inr (7, [.ref a_1, .ref a_42, .ref a_50, .ref a_51, .int 0, .ref a_53, .ref a_52, .ref a_54, .ref a_55, .ref a_56])), (a_50, .inl (G.2 1, 24, .inr (.inl f_b))), (a_51, .inl (G.2 0, 1536, .inl (fun _ => 0))), (a_52, .inl (G.2 1, 2048, .inr (.inl f_c))), (a_53, .inl (G.2 1, 2048, .inr (.inl k_f)))] H := hP
    have hD : va_D A [(a_49, .inr (7, [.ref a_1, .ref a_42, .ref a_50, .ref a_51, .int 0, .ref a_53, .ref a_52, .ref a_54, .ref a_55, .ref a_56])), (a_50, .inl (G.2 1, 24, .inr (.inl f_b))), (a_51, .inl (G.2 0, 1536, .inl (fun _ => 0))), (a_52, .inl (G.2 1, 2048, .inr (.inl f_c))), (a_53, .inl (G.2 1, 2048, .inr (.inl k_f)))] := hD
    exact W.vret hx hb hr (fun t ht hW => ⟨⟨[(a_49, .inr (7, [.ref a_1, .ref a_42, .ref a_50, .ref a_51, .int 0, .ref a_53, .ref a_52, .ref a_54, .ref a_55, .ref a_56])), (a_50, .inl (G.2 1, 24, .inr (.inl f_b))), (a_51, .inl (G.2 0, 1536, .inl (fun _ => 0))), (a_53, .inl (G.2 1, 2048, .inr (.inl k_f))), (a_52, .inl (G.2 1, 2048, .inr (.inl f_c)))], rfl, ⟨k_f, g5_it e_1 e_2 e_3 (fun j h => i_2 j (by omega)), rfl⟩, by rw [ht]; exact hP.sub [0, 1, 2, 4, 3] rfl, hD.sub [0, 1, 2, 4, 3] (by decide) rfl⟩, hS.F ht⟩) hS.2.2 dX7_stepTo_165
  ·
    have i_4 : k_c.toInt < 64 := by have z := g5_geN (a := k_c.toInt) (b := 64) (by rfl) (by decide) c_4; omega
    refine lv_iconst (v := 0) hx hb dX7_stepTo_15 (by decide) ?_
    refine lv_istore (lv' := [(4, .int 0), (3, .int k_c), (2, .int 1), (0, .ref a_49), (1, .int p_h)]) hx hb dX7_stepTo_16 hl (by decide) rfl (fun ls hl => ?_)
    refine lv_iload hx hb dX7_stepTo_18 (lv_at hl 0 rfl) ?_
    refine lv_iload_n hx hb dX7_stepTo_20 rfl (lv_at hl 2 rfl) ?_
    refine lv_icmp_ge (tgt := 42) hx hb dX7_stepTo_21 (by decide) (fun c_5 => ?_) (fun c_5 => ?_)
    ·
      exact absurd c_5 (by decide)
    ·
      refine lv_aload_n hx hb dX7_stepTo_24 rfl (lv_at hl 3 rfl) ?_
      refine va_get (D := G.1) (ci := 7) (v := .ref a_53) (C := RX7) (T := TX7) (N := 10) hx hb hts inG_X7 hown hK hP 0 rfl rfl 6 (by decide) (hts _ fl_X7_22) (fun _ h9 => h9) rfl dX7_stepTo_25 ?_
      refine lv_iload_n hx hb dX7_stepTo_28 rfl (lv_at hl 1 rfl) ?_
      refine lv_iload_n hx hb dX7_stepTo_29 rfl (lv_at hl 2 rfl) ?_
      refine lv_imul hx hb dX7_stepTo_30 ?_
      refine g5_ti (v := k_c) (by simp) ?_
      refine lv_iload hx hb dX7_stepTo_31 (lv_at hl 0 rfl) ?_
      refine lv_iadd hx hb dX7_stepTo_33 ?_
      refine g5_ti (v := k_c) (by simp) ?_
      refine lv_lconst (v := 0) hx hb dX7_stepTo_34 (by decide) ?_
      refine va_last hx hb hK hP hD hS 4 1 rfl rfl (i := k_c) (x := 0) (vp_in_iff.mpr ⟨by omega, by omega⟩) dX7_stepTo_35 (fun H locs hP hD hS => ?_)
      have hP : va_P G.1 vwCl [(a_49, .inr (7, [.ref a_1, .ref a_42, .ref a_50, .ref a_51, .int 0, .ref a_52, .ref a_53, .ref a_54, .ref a_55, .ref a_56])), (a_50, .inl (G.2 1, 24, .inr (.inl f_b))), (a_51, .inl (G.2 0, 1536, .inl (fun _ => 0))), (a_52, .inl (G.2 1, 2048, .inr (.inl f_c))), (a_53, .inl (G.2 1, 2048, .inr (.inl (vp_updL k_f k_c.toNatClampNeg 0))))] H := hP
      have hD : va_D A [(a_49, .inr (7, [.ref a_1, .ref a_42, .ref a_50, .ref a_51, .int 0, .ref a_52, .ref a_53, .ref a_54, .ref a_55, .ref a_56])), (a_50, .inl (G.2 1, 24, .inr (.inl f_b))), (a_51, .inl (G.2 0, 1536, .inl (fun _ => 0))), (a_52, .inl (G.2 1, 2048, .inr (.inl f_c))), (a_53, .inl (G.2 1, 2048, .inr (.inl (vp_updL k_f k_c.toNatClampNeg 0))))] := hD
      refine lv_iinc (v := 1) (lv' := [(4, .int 1), (3, .int k_c), (2, .int 1), (0, .ref a_49), (1, .int p_h)]) hx hb dX7_stepTo_36 hl (k := 0) rfl (by decide) (by decide) rfl (fun ls hl => ?_)
      refine lv_goto (tgt := 18) hx hb dX7_stepTo_39 (by decide) ?_
      refine lv_iload hx hb dX7_stepTo_18 (lv_at hl 0 rfl) ?_
      refine lv_iload_n hx hb dX7_stepTo_20 rfl (lv_at hl 2 rfl) ?_
      refine lv_icmp_ge (tgt := 42) hx hb dX7_stepTo_21 (by decide) (fun c_6 => ?_) (fun c_6 => ?_)
      ·
        refine lv_aload_n hx hb dX7_stepTo_42 rfl (lv_at hl 3 rfl) ?_
        refine va_get (D := G.1) (ci := 7) (v := .ref a_51) (C := RX7) (T := TX7) (N := 10) hx hb hts inG_X7 hown hK hP 0 rfl rfl 3 (by decide) (hts _ fl_X7_15) (fun _ h9 => h9) rfl dX7_stepTo_43 ?_
        refine lv_iload_n hx hb dX7_stepTo_46 rfl (lv_at hl 4 rfl) ?_
        refine lv_bipush (v := 64) hx hb dX7_stepTo_47 (by decide) ?_
        refine lv_imul hx hb dX7_stepTo_49 ?_
        have t_7 : (p_h * 64).toInt = p_h.toInt * 64 := g5_imul (a := p_h.toInt) (b := 64) (by rfl) (by decide) (by omega) (by omega)
        refine lv_iload_n hx hb dX7_stepTo_50 rfl (lv_at hl 1 rfl) ?_
        refine lv_iadd hx hb dX7_stepTo_51 ?_
        have t_8 : ((p_h * 64) + k_c).toInt = (p_h * 64).toInt + k_c.toInt := g5_iadd (a := (p_h * 64).toInt) (b := k_c.toInt) (by rfl) (by rfl) (by omega) (by omega)
        refine va_iald hx hb hK hP 2 0 rfl rfl (i := ((p_h * 64) + k_c)) (vp_in_iff.mpr ⟨by omega, by omega⟩) dX7_stepTo_52 ?_
        refine g5_ti (v := 0) rfl ?_
        refine lv_istore (lv' := [(4, .int 0), (3, .int k_c), (2, .int 1), (0, .ref a_49), (1, .int p_h)]) hx hb dX7_stepTo_53 hl (by decide) rfl (fun ls hl => ?_)
        refine lv_iconst (v := 0) hx hb dX7_stepTo_55 (by decide) ?_
        refine lv_istore (lv' := [(5, .int 0), (4, .int 0), (3, .int k_c), (2, .int 1), (0, .ref a_49), (1, .int p_h)]) hx hb dX7_stepTo_56 hl (by decide) rfl (fun ls hl => ?_)
        refine g5_loop (α := (Int32) × (Nat → Int64)) (fun (q : (Int32) × (Nat → Int64)) (ls : Array Slot) (H : Heap) (locs : List Loc) => match q with | (k_w, k_g) => lv_has ls 8 [(5, .int k_w), (4, .int 0), (3, .int k_c), (2, .int 1), (0, .ref a_49), (1, .int p_h)] ∧ va_P G.1 vwCl [(a_49, .inr (7, [.ref a_1, .ref a_42, .ref a_50, .ref a_51, .int 0, .ref a_52, .ref a_53, .ref a_54, .ref a_55, .ref a_56])), (a_50, .inl (G.2 1, 24, .inr (.inl f_b))), (a_51, .inl (G.2 0, 1536, .inl (fun _ => 0))), (a_52, .inl (G.2 1, 2048, .inr (.inl f_c))), (a_53, .inl (G.2 1, 2048, .inr (.inl k_g)))] H ∧ va_D A [(a_49, .inr (7, [.ref a_1, .ref a_42, .ref a_50, .ref a_51, .int 0, .ref a_52, .ref a_53, .ref a_54, .ref a_55, .ref a_56])), (a_50, .inl (G.2 1, 24, .inr (.inl f_b))), (a_51, .inl (G.2 0, 1536, .inl (fun _ => 0))), (a_52, .inl (G.2 1, 2048, .inr (.inl f_c))), (a_53, .inl (G.2 1, 2048, .inr (.inl k_g)))] ∧ va_S A s.heap H locs ∧ (0 ≤ k_w.toInt ∧ k_w.toInt ≤ 5) ∧ (∀ j : Nat, (j : Int) < k_c.toInt → k_g j = stepF f_c (f_b p_h.toNatClampNeg) j) ∧ (k_g k_c.toInt.toNat = psum f_c k_c.toInt k_w.toInt.toNat) ∧ (0 < k_w.toInt → onB (f_b p_h.toNatClampNeg) k_c.toInt = false)) (fun (q : (Int32) × (Nat → Int64)) => match q with | (k_w, k_g) => Int.toNat (5 - k_w.toInt)) (0, (vp_updL k_f k_c.toNatClampNeg 0)) ⟨lv_sub hl [0, 1, 2, 3, 4, 5] rfl, hP, hD, hS, ⟨by decide, by decide⟩, g5_keepJ i_2, g5_atJ, fun h => absurd h (by decide)⟩ ?_
        rintro ⟨k_w, k_g⟩ ls H locs ⟨hl, hP, hD, hS, i_9, i_10, i_11, i_12⟩ ih_58_13
        have hl : lv_has ls 8 [(5, .int k_w), (4, .int 0), (3, .int k_c), (2, .int 1), (0, .ref a_49), (1, .int p_h)] := hl
        have i_9 : 0 ≤ k_w.toInt ∧ k_w.toInt ≤ 5 := i_9
        have i_10 : ∀ j : Nat, (j : Int) < k_c.toInt → k_g j = stepF f_c (f_b p_h.toNatClampNeg) j := i_10
        have i_11 : k_g k_c.toInt.toNat = psum f_c k_c.toInt k_w.toInt.toNat := i_11
        have i_12 : 0 < k_w.toInt → onB (f_b p_h.toNatClampNeg) k_c.toInt = false := i_12
        have hP : va_P G.1 vwCl [(a_49, .inr (7, [.ref a_1, .ref a_42, .ref a_50, .ref a_51, .int 0, .ref a_52, .ref a_53, .ref a_54, .ref a_55, .ref a_56])), (a_50, .inl (G.2 1, 24, .inr (.inl f_b))), (a_51, .inl (G.2 0, 1536, .inl (fun _ => 0))), (a_52, .inl (G.2 1, 2048, .inr (.inl f_c))), (a_53, .inl (G.2 1, 2048, .inr (.inl k_g)))] H := hP
        have hD : va_D A [(a_49, .inr (7, [.ref a_1, .ref a_42, .ref a_50, .ref a_51, .int 0, .ref a_52, .ref a_53, .ref a_54, .ref a_55, .ref a_56])), (a_50, .inl (G.2 1, 24, .inr (.inl f_b))), (a_51, .inl (G.2 0, 1536, .inl (fun _ => 0))), (a_52, .inl (G.2 1, 2048, .inr (.inl f_c))), (a_53, .inl (G.2 1, 2048, .inr (.inl k_g)))] := hD
        refine lv_iload hx hb dX7_stepTo_58 (lv_at hl 0 rfl) ?_
        refine lv_iconst (v := 4) hx hb dX7_stepTo_60 (by decide) ?_
        refine lv_icmp_gt (tgt := 141) hx hb dX7_stepTo_61 (by decide) (fun c_14 => ?_) (fun c_14 => ?_)
        ·
          have i_14 : k_w.toInt > 4 := by have z := g5_gt (a := k_w.toInt) (b := 4) (by rfl) (by decide) c_14; omega
          refine lv_iinc (v := (k_c + 1)) (lv' := [(3, .int (k_c + 1)), (5, .int k_w), (4, .int 0), (2, .int 1), (0, .ref a_49), (1, .int p_h)]) hx hb dX7_stepTo_141 hl (k := 2) rfl rfl (by decide) rfl (fun ls hl => ?_)
          have t_15 : (k_c + 1).toInt = k_c.toInt + 1 := g5_iadd (a := k_c.toInt) (b := 1) rfl (by decide) (by omega) (by omega)
          refine lv_goto (tgt := 9) hx hb dX7_stepTo_144 (by decide) ?_
          exact ih_9_3 ((k_c + 1), k_g) ls H locs (show Int.toNat (64 - (k_c + 1).toInt) < Int.toNat (64 - k_c.toInt) by omega) ⟨lv_sub hl [0, 3, 4, 5] rfl, hP, hD, hS, ⟨by omega, by omega⟩, g5_row1 i_10 (by omega) (by omega) i_11 (Or.inl ⟨by omega, i_12 (by omega)⟩)⟩
        ·
          have i_14 : k_w.toInt ≤ 4 := by have z := g5_gtN (a := k_w.toInt) (b := 4) (by rfl) (by decide) c_14; omega
          refine lv_aload_n hx hb dX7_stepTo_64 rfl (lv_at hl 4 rfl) ?_
          refine va_get (D := G.1) (ci := 7) (v := .ref a_50) (C := RX7) (T := TX7) (N := 10) hx hb hts inG_X7 hown hK hP 0 rfl rfl 2 (by decide) (hts _ fl_X7_9) (fun _ h9 => h9) rfl dX7_stepTo_65 ?_
          refine lv_iload_n hx hb dX7_stepTo_68 rfl (lv_at hl 5 rfl) ?_
          refine va_lald hx hb hK hP 1 1 rfl rfl (i := p_h) (vp_in_iff.mpr ⟨by omega, by omega⟩) dX7_stepTo_69 ?_
          refine lv_iload_n hx hb dX7_stepTo_70 rfl (lv_at hl 2 rfl) ?_
          have hPc := hP.sub (ws' := []) [] rfl
          have hDc := hD.sub (ws' := []) [] (by decide) rfl
          have hFc := va_free (wc := []) hD hS hA [] rfl
          refine va_calli (va_runSN (As := [.long (f_b p_h.toNatClampNeg), .int k_c]) (rest := []) ⟨hx, hb, hml, hown, hts⟩ (k_isOn l G H.size k_c (f_b p_h.toNatClampNeg) ⟨by omega, by omega⟩) ⟨va_cnB 2 hts gW_X11_isOn rfl rfl rfl (hN.1 _ g5_nw_X7_98) (hts _ ini_X11) hs_X11_isOn ⟨Nat.le_of_ble_eq_true rfl, Nat.le_of_ble_eq_true rfl⟩, hts _ st_X11_isOn, trivial⟩ (g5_preS hPc hK hDc hN hT hS hFc) rfl rfl hl.1 rfl (lv_room (Nat.le_of_ble_eq_true rfl)) dX7_stepTo_71 ⟨Nat.le_of_ble_eq_true rfl, Nat.le_of_ble_eq_true rfl⟩) hS (fun q _ h => hFc q h) hFc (fun r u t H1 locs ht hvm hw hB hz1 hk1 hS => ?_)
          obtain ⟨hP1, hD1⟩ := hB
          rw [ht] at hP1
          rcases hw with ⟨i_16, rfl, rfl⟩ | ⟨i_17, rfl, rfl⟩
          ·
            have i_16 : onB (f_b p_h.toNatClampNeg) k_c.toInt = false := i_16
            have hP := g5_same hP hk1
            generalize H1 = H at hP hS ⊢
            refine lv_if_ne (tgt := 141) hx hb dX7_stepTo_74 (by decide) (fun c_18 => ?_) (fun c_18 => ?_)
            ·
              exact absurd c_18 (by decide)
            ·
              refine lv_iload_n hx hb dX7_stepTo_77 rfl (lv_at hl 2 rfl) ?_
              refine lv_iload hx hb dX7_stepTo_78 (lv_at hl 0 rfl) ?_
              have hPc := hP.sub (ws' := []) [] rfl
              have hDc := hD.sub (ws' := []) [] (by decide) rfl
              have hFc := va_free (wc := []) hD hS hA [] rfl
              refine va_calli (va_runSN (As := [.int k_c, .int k_w]) (rest := []) ⟨hx, hb, hml, hown, hts⟩ (k_beside l G H.size k_c k_w ⟨by omega, by omega⟩) ⟨va_cnB 2 hts gW_X11_beside rfl rfl rfl (hN.1 _ g5_nw_X7_105) (hts _ ini_X11) hs_X11_beside ⟨Nat.le_of_ble_eq_true rfl, Nat.le_of_ble_eq_true rfl⟩, hts _ st_X11_beside, trivial⟩ (g5_preS hPc hK hDc hN hT hS hFc) rfl rfl hl.1 rfl (lv_room (Nat.le_of_ble_eq_true rfl)) dX7_stepTo_80 ⟨Nat.le_of_ble_eq_true rfl, Nat.le_of_ble_eq_true rfl⟩) hS (fun q _ h => hFc q h) hFc (fun r u t H1 locs ht hvm hw hB hz1 hk1 hS => ?_)
              obtain ⟨hP1, hD1⟩ := hB
              rw [ht] at hP1
              obtain ⟨z21, i_19, i_20, y22, rfl⟩ := hw
              have i_19 : z21.toInt = bs k_c.toInt k_w.toInt := i_19
              have i_20 : -1 ≤ z21.toInt ∧ z21.toInt ≤ 63 := i_20
              have hP := g5_same hP hk1
              generalize H1 = H at hP hS ⊢
              refine g5_ti (v := z21) y22 ?_
              refine lv_istore (lv' := [(6, .int z21), (5, .int k_w), (4, .int 0), (3, .int k_c), (2, .int 1), (0, .ref a_49), (1, .int p_h)]) hx hb dX7_stepTo_83 hl (by decide) rfl (fun ls hl => ?_)
              refine lv_iconst (v := 0) hx hb dX7_stepTo_85 (by decide) ?_
              refine lv_istore (lv' := [(7, .int 0), (6, .int z21), (5, .int k_w), (4, .int 0), (3, .int k_c), (2, .int 1), (0, .ref a_49), (1, .int p_h)]) hx hb dX7_stepTo_86 hl (by decide) rfl (fun ls hl => ?_)
              refine lv_iload hx hb dX7_stepTo_88 (lv_at hl 0 rfl) ?_
              refine lv_iload_n hx hb dX7_stepTo_90 rfl (lv_at hl 5 rfl) ?_
              refine lv_icmp_ge (tgt := 135) hx hb dX7_stepTo_91 (by decide) (fun c_23 => ?_) (fun c_23 => ?_)
              ·
                exact absurd c_23 (by decide)
              ·
                refine lv_iload hx hb dX7_stepTo_94 (lv_at hl 1 rfl) ?_
                refine lv_iconst (v := (-1)) hx hb dX7_stepTo_96 (by decide) ?_
                refine lv_icmp_eq (tgt := 135) hx hb dX7_stepTo_97 (by decide) (fun c_24 => ?_) (fun c_24 => ?_)
                ·
                  have i_24 : z21.toInt = (-1) := by have z := g5_eq (a := z21.toInt) (b := (-1)) (by rfl) (by decide) c_24; omega
                  refine lv_iinc (v := (k_w + 1)) (lv' := [(5, .int (k_w + 1)), (7, .int 0), (6, .int z21), (4, .int 0), (3, .int k_c), (2, .int 1), (0, .ref a_49), (1, .int p_h)]) hx hb dX7_stepTo_135 hl (k := 2) rfl rfl (by decide) rfl (fun ls hl => ?_)
                  have t_25 : (k_w + 1).toInt = k_w.toInt + 1 := g5_iadd (a := k_w.toInt) (b := 1) rfl (by decide) (by omega) (by omega)
                  refine lv_goto (tgt := 58) hx hb dX7_stepTo_138 (by decide) ?_
                  exact ih_58_13 ((k_w + 1), k_g) ls H locs (show Int.toNat (5 - (k_w + 1).toInt) < Int.toNat (5 - k_w.toInt) by omega) ⟨lv_sub hl [0, 3, 4, 5, 6, 7] rfl, hP, hD, hS, ⟨by omega, by omega⟩, i_10, g5_ps0 i_11 (by omega) (by omega) i_19 (by omega), fun _ => i_16⟩
                ·
                  have i_24 : z21.toInt ≠ (-1) := by have z := g5_eqN (a := z21.toInt) (b := (-1)) (by rfl) (by decide) c_24; omega
                  refine lv_aload_n hx hb dX7_stepTo_100 rfl (lv_at hl 6 rfl) ?_
                  refine va_get (D := G.1) (ci := 7) (v := .ref a_53) (C := RX7) (T := TX7) (N := 10) hx hb hts inG_X7 hown hK hP 0 rfl rfl 6 (by decide) (hts _ fl_X7_22) (fun _ h9 => h9) rfl dX7_stepTo_101 ?_
                  refine lv_iload_n hx hb dX7_stepTo_104 rfl (lv_at hl 4 rfl) ?_
                  refine lv_iload_n hx hb dX7_stepTo_105 rfl (lv_at hl 5 rfl) ?_
                  refine lv_imul hx hb dX7_stepTo_106 ?_
                  refine g5_ti (v := k_c) (by simp) ?_
                  refine lv_iload hx hb dX7_stepTo_107 (lv_at hl 0 rfl) ?_
                  refine lv_iload hx hb dX7_stepTo_109 (lv_at hl 3 rfl) ?_
                  refine lv_ior hx hb dX7_stepTo_111 ?_
                  refine g5_ti (v := 0) (by decide) ?_
                  refine lv_iadd hx hb dX7_stepTo_112 ?_
                  refine g5_ti (v := k_c) (by simp) ?_
                  refine lv_dup2_11 hx hb dX7_stepTo_113 rfl rfl ?_
                  refine va_lald hx hb hK hP 4 1 rfl rfl (i := k_c) (vp_in_iff.mpr ⟨by omega, by omega⟩) dX7_stepTo_114 ?_
                  refine lv_aload_n hx hb dX7_stepTo_115 rfl (lv_at hl 6 rfl) ?_
                  refine va_get (D := G.1) (ci := 7) (v := .ref a_52) (C := RX7) (T := TX7) (N := 10) hx hb hts inG_X7 hown hK hP 0 rfl rfl 5 (by decide) (hts _ fl_X7_19) (fun _ h9 => h9) rfl dX7_stepTo_116 ?_
                  refine lv_iload hx hb dX7_stepTo_119 (lv_at hl 1 rfl) ?_
                  refine lv_iload_n hx hb dX7_stepTo_121 rfl (lv_at hl 5 rfl) ?_
                  refine lv_imul hx hb dX7_stepTo_122 ?_
                  refine g5_ti (v := z21) (by simp) ?_
                  refine lv_iload hx hb dX7_stepTo_123 (lv_at hl 0 rfl) ?_
                  refine lv_iadd hx hb dX7_stepTo_125 ?_
                  refine g5_ti (v := z21) (by simp) ?_
                  refine va_lald hx hb hK hP 3 1 rfl rfl (i := z21) (vp_in_iff.mpr ⟨by omega, by omega⟩) dX7_stepTo_126 ?_
                  refine lv_ladd hx hb dX7_stepTo_127 ?_
                  refine va_last hx hb hK hP hD hS 4 1 rfl rfl (i := k_c) (x := ((k_g k_c.toNatClampNeg) + (f_c z21.toNatClampNeg))) (vp_in_iff.mpr ⟨by omega, by omega⟩) dX7_stepTo_128 (fun H locs hP hD hS => ?_)
                  have hP : va_P G.1 vwCl [(a_49, .inr (7, [.ref a_1, .ref a_42, .ref a_50, .ref a_51, .int 0, .ref a_52, .ref a_53, .ref a_54, .ref a_55, .ref a_56])), (a_50, .inl (G.2 1, 24, .inr (.inl f_b))), (a_51, .inl (G.2 0, 1536, .inl (fun _ => 0))), (a_52, .inl (G.2 1, 2048, .inr (.inl f_c))), (a_53, .inl (G.2 1, 2048, .inr (.inl (vp_updL k_g k_c.toNatClampNeg ((k_g k_c.toNatClampNeg) + (f_c z21.toNatClampNeg))))))] H := hP
                  have hD : va_D A [(a_49, .inr (7, [.ref a_1, .ref a_42, .ref a_50, .ref a_51, .int 0, .ref a_52, .ref a_53, .ref a_54, .ref a_55, .ref a_56])), (a_50, .inl (G.2 1, 24, .inr (.inl f_b))), (a_51, .inl (G.2 0, 1536, .inl (fun _ => 0))), (a_52, .inl (G.2 1, 2048, .inr (.inl f_c))), (a_53, .inl (G.2 1, 2048, .inr (.inl (vp_updL k_g k_c.toNatClampNeg ((k_g k_c.toNatClampNeg) + (f_c z21.toNatClampNeg))))))] := hD
                  refine lv_iinc (v := 1) (lv' := [(7, .int 1), (6, .int z21), (5, .int k_w), (4, .int 0), (3, .int k_c), (2, .int 1), (0, .ref a_49), (1, .int p_h)]) hx hb dX7_stepTo_129 hl (k := 0) rfl (by decide) (by decide) rfl (fun ls hl => ?_)
                  refine lv_goto (tgt := 88) hx hb dX7_stepTo_132 (by decide) ?_
                  refine lv_iload hx hb dX7_stepTo_88 (lv_at hl 0 rfl) ?_
                  refine lv_iload_n hx hb dX7_stepTo_90 rfl (lv_at hl 5 rfl) ?_
                  refine lv_icmp_ge (tgt := 135) hx hb dX7_stepTo_91 (by decide) (fun c_26 => ?_) (fun c_26 => ?_)
                  ·
                    refine lv_iinc (v := (k_w + 1)) (lv' := [(5, .int (k_w + 1)), (7, .int 1), (6, .int z21), (4, .int 0), (3, .int k_c), (2, .int 1), (0, .ref a_49), (1, .int p_h)]) hx hb dX7_stepTo_135 hl (k := 2) rfl rfl (by decide) rfl (fun ls hl => ?_)
                    have t_27 : (k_w + 1).toInt = k_w.toInt + 1 := g5_iadd (a := k_w.toInt) (b := 1) rfl (by decide) (by omega) (by omega)
                    refine lv_goto (tgt := 58) hx hb dX7_stepTo_138 (by decide) ?_
                    exact ih_58_13 ((k_w + 1), (vp_updL k_g k_c.toNatClampNeg ((k_g k_c.toNatClampNeg) + (f_c z21.toNatClampNeg)))) ls H locs (show Int.toNat (5 - (k_w + 1).toInt) < Int.toNat (5 - k_w.toInt) by omega) ⟨lv_sub hl [0, 3, 4, 5, 6, 7] rfl, hP, hD, hS, ⟨by omega, by omega⟩, g5_keepJ i_10, g5_ps1 i_11 (by omega) (by omega) i_19 (by omega), fun _ => i_16⟩
                  ·
                    exact absurd c_26 (by decide)
          ·
            have i_17 : onB (f_b p_h.toNatClampNeg) k_c.toInt = true := i_17
            have hP := g5_same hP hk1
            generalize H1 = H at hP hS ⊢
            refine lv_if_ne (tgt := 141) hx hb dX7_stepTo_74 (by decide) (fun c_28 => ?_) (fun c_28 => ?_)
            ·
              refine lv_iinc (v := (k_c + 1)) (lv' := [(3, .int (k_c + 1)), (5, .int k_w), (4, .int 0), (2, .int 1), (0, .ref a_49), (1, .int p_h)]) hx hb dX7_stepTo_141 hl (k := 2) rfl rfl (by decide) rfl (fun ls hl => ?_)
              have t_29 : (k_c + 1).toInt = k_c.toInt + 1 := g5_iadd (a := k_c.toInt) (b := 1) rfl (by decide) (by omega) (by omega)
              refine lv_goto (tgt := 9) hx hb dX7_stepTo_144 (by decide) ?_
              exact ih_9_3 ((k_c + 1), k_g) ls H locs (show Int.toNat (64 - (k_c + 1).toInt) < Int.toNat (64 - k_c.toInt) by omega) ⟨lv_sub hl [0, 3, 4, 5] rfl, hP, hD, hS, ⟨by omega, by omega⟩, g5_row1 i_10 (by omega) (by omega) i_11 (Or.inr ⟨by by_cases hz : 0 < k_w.toInt; exact absurd (i_12 hz) (by rw [i_17]; decide); omega, i_17⟩)⟩
            ·
              exact absurd c_28 (by decide)
      ·
        exact absurd c_6 (by decide)
theorem dX7_countRows_0 : decode cX7_countRows 0 = .ok (.aload_n 0, 1) := by decide +kernel
theorem dX7_countRows_1 : decode cX7_countRows 1 = .ok (.getfield 89, 3) := by decide +kernel
theorem dX7_countRows_4 : decode cX7_countRows 4 = .ok (.iconst 1, 1) := by decide +kernel
theorem dX7_countRows_5 : decode cX7_countRows 5 = .ok (.iadd, 1) := by decide +kernel
theorem dX7_countRows_6 : decode cX7_countRows 6 = .ok (.istore_n 1, 1) := by decide +kernel
theorem dX7_countRows_7 : decode cX7_countRows 7 = .ok (.aload_n 0, 1) := by decide +kernel
theorem dX7_countRows_8 : decode cX7_countRows 8 = .ok (.getfield 19, 3) := by decide +kernel
theorem dX7_countRows_11 : decode cX7_countRows 11 = .ok (.lconst 0, 1) := by decide +kernel
theorem dX7_countRows_12 : decode cX7_countRows 12 = .ok (.invokestatic 58, 3) := by decide +kernel
theorem dX7_countRows_15 : decode cX7_countRows 15 = .ok (.iconst 0, 1) := by decide +kernel
theorem dX7_countRows_16 : decode cX7_countRows 16 = .ok (.istore_n 2, 1) := by decide +kernel
theorem dX7_countRows_17 : decode cX7_countRows 17 = .ok (.iload_n 2, 1) := by decide +kernel
theorem dX7_countRows_18 : decode cX7_countRows 18 = .ok (.bipush 64, 2) := by decide +kernel
theorem dX7_countRows_20 : decode cX7_countRows 20 = .ok (.if_icmp .ge 42, 3) := by decide +kernel
theorem dX7_countRows_23 : decode cX7_countRows 23 = .ok (.aload_n 0, 1) := by decide +kernel
theorem dX7_countRows_24 : decode cX7_countRows 24 = .ok (.getfield 19, 3) := by decide +kernel
theorem dX7_countRows_27 : decode cX7_countRows 27 = .ok (.iload_n 2, 1) := by decide +kernel
theorem dX7_countRows_28 : decode cX7_countRows 28 = .ok (.iload_n 1, 1) := by decide +kernel
theorem dX7_countRows_29 : decode cX7_countRows 29 = .ok (.imul, 1) := by decide +kernel
theorem dX7_countRows_30 : decode cX7_countRows 30 = .ok (.aload_n 0, 1) := by decide +kernel
theorem dX7_countRows_31 : decode cX7_countRows 31 = .ok (.getfield 15, 3) := by decide +kernel
theorem dX7_countRows_34 : decode cX7_countRows 34 = .ok (.iload_n 2, 1) := by decide +kernel
theorem dX7_countRows_35 : decode cX7_countRows 35 = .ok (.iaload, 1) := by decide +kernel
theorem dX7_countRows_36 : decode cX7_countRows 36 = .ok (.iadd, 1) := by decide +kernel
theorem dX7_countRows_37 : decode cX7_countRows 37 = .ok (.aload_n 0, 1) := by decide +kernel
theorem dX7_countRows_38 : decode cX7_countRows 38 = .ok (.getfield 9, 3) := by decide +kernel
theorem dX7_countRows_41 : decode cX7_countRows 41 = .ok (.iconst 0, 1) := by decide +kernel
theorem dX7_countRows_42 : decode cX7_countRows 42 = .ok (.laload, 1) := by decide +kernel
theorem dX7_countRows_43 : decode cX7_countRows 43 = .ok (.iload_n 2, 1) := by decide +kernel
theorem dX7_countRows_44 : decode cX7_countRows 44 = .ok (.invokestatic 98, 3) := by decide +kernel
theorem dX7_countRows_47 : decode cX7_countRows 47 = .ok (.ifCond .eq 7, 3) := by decide +kernel
theorem dX7_countRows_50 : decode cX7_countRows 50 = .ok (.lconst 0, 1) := by decide +kernel
theorem dX7_countRows_51 : decode cX7_countRows 51 = .ok (.goto 4, 3) := by decide +kernel
theorem dX7_countRows_54 : decode cX7_countRows 54 = .ok (.lconst 1, 1) := by decide +kernel
theorem dX7_countRows_55 : decode cX7_countRows 55 = .ok (.lastore, 1) := by decide +kernel
theorem dX7_countRows_56 : decode cX7_countRows 56 = .ok (.iinc 2 1, 3) := by decide +kernel
theorem dX7_countRows_59 : decode cX7_countRows 59 = .ok (.goto (-42), 3) := by decide +kernel
theorem dX7_countRows_62 : decode cX7_countRows 62 = .ok (.iconst 1, 1) := by decide +kernel
theorem dX7_countRows_63 : decode cX7_countRows 63 = .ok (.istore_n 2, 1) := by decide +kernel
theorem dX7_countRows_64 : decode cX7_countRows 64 = .ok (.iload_n 2, 1) := by decide +kernel
theorem dX7_countRows_65 : decode cX7_countRows 65 = .ok (.bipush 24, 2) := by decide +kernel
theorem dX7_countRows_67 : decode cX7_countRows 67 = .ok (.if_icmp .ge 14, 3) := by decide +kernel
theorem dX7_countRows_70 : decode cX7_countRows 70 = .ok (.aload_n 0, 1) := by decide +kernel
theorem dX7_countRows_71 : decode cX7_countRows 71 = .ok (.iload_n 2, 1) := by decide +kernel
theorem dX7_countRows_72 : decode cX7_countRows 72 = .ok (.invokevirtual 102, 3) := by decide +kernel
theorem dX7_countRows_75 : decode cX7_countRows 75 = .ok (.iinc 2 1, 3) := by decide +kernel
theorem dX7_countRows_78 : decode cX7_countRows 78 = .ok (.goto (-14), 3) := by decide +kernel
theorem dX7_countRows_81 : decode cX7_countRows 81 = .ok (.lconst 0, 1) := by decide +kernel
theorem dX7_countRows_82 : decode cX7_countRows 82 = .ok (.lstore_n 2, 1) := by decide +kernel
theorem dX7_countRows_83 : decode cX7_countRows 83 = .ok (.iconst 0, 1) := by decide +kernel
theorem dX7_countRows_84 : decode cX7_countRows 84 = .ok (.istore 4, 2) := by decide +kernel
theorem dX7_countRows_86 : decode cX7_countRows 86 = .ok (.iload 4, 2) := by decide +kernel
theorem dX7_countRows_88 : decode cX7_countRows 88 = .ok (.bipush 64, 2) := by decide +kernel
theorem dX7_countRows_90 : decode cX7_countRows 90 = .ok (.if_icmp .ge 26, 3) := by decide +kernel
theorem dX7_countRows_93 : decode cX7_countRows 93 = .ok (.lload_n 2, 1) := by decide +kernel
theorem dX7_countRows_94 : decode cX7_countRows 94 = .ok (.aload_n 0, 1) := by decide +kernel
theorem dX7_countRows_95 : decode cX7_countRows 95 = .ok (.getfield 19, 3) := by decide +kernel
theorem dX7_countRows_98 : decode cX7_countRows 98 = .ok (.iload 4, 2) := by decide +kernel
theorem dX7_countRows_100 : decode cX7_countRows 100 = .ok (.iload_n 1, 1) := by decide +kernel
theorem dX7_countRows_101 : decode cX7_countRows 101 = .ok (.imul, 1) := by decide +kernel
theorem dX7_countRows_102 : decode cX7_countRows 102 = .ok (.aload_n 0, 1) := by decide +kernel
theorem dX7_countRows_103 : decode cX7_countRows 103 = .ok (.getfield 89, 3) := by decide +kernel
theorem dX7_countRows_106 : decode cX7_countRows 106 = .ok (.iadd, 1) := by decide +kernel
theorem dX7_countRows_107 : decode cX7_countRows 107 = .ok (.laload, 1) := by decide +kernel
theorem dX7_countRows_108 : decode cX7_countRows 108 = .ok (.ladd, 1) := by decide +kernel
theorem dX7_countRows_109 : decode cX7_countRows 109 = .ok (.lstore_n 2, 1) := by decide +kernel
theorem dX7_countRows_110 : decode cX7_countRows 110 = .ok (.iinc 4 1, 3) := by decide +kernel
theorem dX7_countRows_113 : decode cX7_countRows 113 = .ok (.goto (-27), 3) := by decide +kernel
theorem dX7_countRows_116 : decode cX7_countRows 116 = .ok (.lload_n 2, 1) := by decide +kernel
theorem dX7_countRows_117 : decode cX7_countRows 117 = .ok (.lreturn, 1) := by decide +kernel
theorem ml_X7_58 : Cond.methodLink RX7 58 yJ7_fill_d0a16 ∈ tblG := tg 963 (by decide +kernel) (by decide +kernel)
theorem st_J7_fill_d0a16 : Cond.static yJ7_fill_d0a16 ∈ tblG := tg 918 (by decide +kernel) (by decide +kernel)
theorem ini_J7 : Cond.initialized RJ7 ∈ tblG := tg 105 (by decide +kernel) (by decide +kernel)
theorem cd_J7_fill_d0a16 : Cond.code yJ7_fill_d0a16 cJ7_fill_d0a16 5 none ∈ tblG := tg 919 (by decide +kernel) (by decide +kernel)
theorem gW_J7_fill_d0a16 : GoodIn tblG (wsG yJ7_fill_d0a16 cJ7_fill_d0a16 5 none) := tgi cd_J7_fill_d0a16
theorem gS_X7_58 : GoodIn tblG (va_wsS RX7 58 yJ7_fill_d0a16 (wsG yJ7_fill_d0a16 cJ7_fill_d0a16 5 none)) := tgS ml_X7_58 st_J7_fill_d0a16 ini_J7 gW_J7_fill_d0a16
theorem hs_J7_fill_d0a16 : yJ7_fill_d0a16.cls ≠ "java/lang/invoke/MethodHandle" ∧ yJ7_fill_d0a16.cls ≠ "java/lang/invoke/VarHandle" ∧ (parseMethodDescriptor yJ7_fill_d0a16.desc).map (fun d => d.parameters.length) = some 2 := by decide +kernel
theorem ml_X7_102 : Cond.methodLink RX7 102 yX7_stepTo ∈ tblG := tg 983 (by decide +kernel) (by decide +kernel)
theorem im_X7_stepTo : Cond.instanceMethod yX7_stepTo ∈ tblG := tg 985 (by decide +kernel) (by decide +kernel)
theorem se_X7_stepTo : Cond.selects RX7 yX7_stepTo yX7_stepTo ∈ tblG := tg 21 (by decide +kernel) (by decide +kernel)
theorem cd_X7_stepTo : Cond.code yX7_stepTo cX7_stepTo 8 none ∈ tblG := tg 986 (by decide +kernel) (by decide +kernel)
theorem gW_X7_stepTo : GoodIn tblG (wsG yX7_stepTo cX7_stepTo 8 none) := tgi cd_X7_stepTo
theorem gV_X7_102 : GoodIn tblG (wsV RX7 102 RX7 yX7_stepTo (wsG yX7_stepTo cX7_stepTo 8 none)) := tgV ml_X7_102 im_X7_stepTo se_X7_stepTo ini_X7 gW_X7_stepTo
theorem hv_X7_stepTo : yX7_stepTo.cls = RX7 ∧ yX7_stepTo.cls ≠ "java/lang/invoke/MethodHandle" ∧ yX7_stepTo.cls ≠ "java/lang/invoke/VarHandle" ∧ (parseMethodDescriptor yX7_stepTo.desc).map (fun d => d.parameters.length) = some 1 := by decide +kernel
