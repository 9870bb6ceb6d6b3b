set_option maxHeartbeats 4000000 in
set_option maxRecDepth 100000 in
theorem k_go2 (l : Launch) (G : g5_G) (a_y a_2 a_15 a_1 a_3 a_4 a_5 a_6 a_7 a_8 a_9 a_10 a_11 a_12 a_13 a_14 a_16 a_17 a_18 a_19 a_20 a_21 a_22 : Nat) (sz : Nat) (p_c : Int32) (p_h : Int32) (p_s : Int32) (e_cell : Int32) (e_hour : Int32) (e_way : Int32) (e_bright : Int32) (e_points : Int32) (e_through : Int32) (e_seen : Int32) (f_p : Nat → Int32) (h_p_c : 0 ≤ p_c.toInt ∧ p_c.toInt ≤ 63) (h_p_h : 0 ≤ p_h.toInt ∧ p_h.toInt ≤ 23) : Met l yX12_go (wsG yX12_go cX12_go 7 none) ({ frames := 1, cells := 0, slots := 0, locals := 22 }) (va_Pc [.ref a_y, .int p_c, .int 2, .int p_h, .int p_s] (g5_P G [(a_y, .inr (12, [.int 0, .int 0, .ref a_1, .ref a_2, .ref a_3, .ref a_4, .int 0, .ref a_5, .int 0, .int 0, .int 0, .int 0, .long 0, .int (-1), .int 0, .int 0, .ref a_6, .int 0, .ref a_7, .ref a_8, .int 0, .ref a_9, .ref a_10, .int 0, .int 0, .ref a_11, .ref a_12, .int 0, .ref a_13, .ref a_14, .int 0, .long 0, .long 0, .int e_cell, .int e_hour, .int e_way, .int e_bright, .int e_points, .ref a_15, .int e_through, .int e_seen, .ref a_16, .int 0, .ref a_17, .ref a_18, .ref a_19, .int 0, .ref a_20, .ref a_21, .long 0, .ref a_22, .int 0])), (a_2, .inl (G.2 0, 5740, .inl (upd (upd (upd (fun _ => 0) 3 (-1)) 4 1000) 6 (-1)))), (a_15, .inl (G.2 0, 200, .inl f_p))] sz)) (va_Qv (fun (u : va_W) => (∃ (o_n : Int32) (o_c : Int32) (o_f : Nat → Int32), (o_n.toInt = 7 - p_c.toInt / 8) ∧ (0 ≤ o_n.toInt ∧ o_n.toInt ≤ 7) ∧ (0 ≤ o_c.toInt ∧ o_c.toInt ≤ 63) ∧ (∀ j : Nat, (j : Int) < o_n.toInt → (o_f j).toInt = p_h.toInt * 64 + (p_c.toInt + 8 * ((j : Int) + 1))) ∧ (u = [(a_y, .inr (12, [.int 0, .int 0, .ref a_1, .ref a_2, .ref a_3, .ref a_4, .int 0, .ref a_5, .int 0, .int 0, .int 0, .int 0, .long 0, .int (-1), .int 0, .int 0, .ref a_6, .int 0, .ref a_7, .ref a_8, .int 0, .ref a_9, .ref a_10, .int 0, .int 0, .ref a_11, .ref a_12, .int 0, .ref a_13, .ref a_14, .int 0, .long 0, .long 0, .int o_c, .int p_h, .int 2, .int 1000000, .int o_n, .ref a_15, .int 0, .int (-1), .ref a_16, .int 0, .ref a_17, .ref a_18, .ref a_19, .int 0, .ref a_20, .ref a_21, .long 0, .ref a_22, .int 0])), (a_2, .inl (G.2 0, 5740, .inl (upd (upd (upd (fun _ => 0) 3 (-1)) 4 1000) 6 (-1)))), (a_15, .inl (G.2 0, 200, .inl o_f))]))) (g5_B G (va_A [(a_y, .inr (12, [.int 0, .int 0, .ref a_1, .ref a_2, .ref a_3, .ref a_4, .int 0, .ref a_5, .int 0, .int 0, .int 0, .int 0, .long 0, .int (-1), .int 0, .int 0, .ref a_6, .int 0, .ref a_7, .ref a_8, .int 0, .ref a_9, .ref a_10, .int 0, .int 0, .ref a_11, .ref a_12, .int 0, .ref a_13, .ref a_14, .int 0, .long 0, .long 0, .int e_cell, .int e_hour, .int e_way, .int e_bright, .int e_points, .ref a_15, .int e_through, .int e_seen, .ref a_16, .int 0, .ref a_17, .ref a_18, .ref a_19, .int 0, .ref a_20, .ref a_21, .long 0, .ref a_22, .int 0])), (a_2, .inl (G.2 0, 5740, .inl (upd (upd (upd (fun _ => 0) 3 (-1)) 4 1000) 6 (-1)))), (a_15, .inl (G.2 0, 200, .inl f_p))] sz)) (va_A [(a_y, .inr (12, [.int 0, .int 0, .ref a_1, .ref a_2, .ref a_3, .ref a_4, .int 0, .ref a_5, .int 0, .int 0, .int 0, .int 0, .long 0, .int (-1), .int 0, .int 0, .ref a_6, .int 0, .ref a_7, .ref a_8, .int 0, .ref a_9, .ref a_10, .int 0, .int 0, .ref a_11, .ref a_12, .int 0, .ref a_13, .ref a_14, .int 0, .long 0, .long 0, .int e_cell, .int e_hour, .int e_way, .int e_bright, .int e_points, .ref a_15, .int e_through, .int e_seen, .ref a_16, .int 0, .ref a_17, .ref a_18, .ref a_19, .int 0, .ref a_20, .ref a_21, .long 0, .ref a_22, .int 0])), (a_2, .inl (G.2 0, 5740, .inl (upd (upd (upd (fun _ => 0) 3 (-1)) 4 1000) 6 (-1)))), (a_15, .inl (G.2 0, 200, .inl f_p))] sz)) 0 0 (va_A [(a_y, .inr (12, [.int 0, .int 0, .ref a_1, .ref a_2, .ref a_3, .ref a_4, .int 0, .ref a_5, .int 0, .int 0, .int 0, .int 0, .long 0, .int (-1), .int 0, .int 0, .ref a_6, .int 0, .ref a_7, .ref a_8, .int 0, .ref a_9, .ref a_10, .int 0, .int 0, .ref a_11, .ref a_12, .int 0, .ref a_13, .ref a_14, .int 0, .long 0, .long 0, .int e_cell, .int e_hour, .int e_way, .int e_bright, .int e_points, .ref a_15, .int e_through, .int e_seen, .ref a_16, .int 0, .ref a_17, .ref a_18, .ref a_19, .int 0, .ref a_20, .ref a_21, .long 0, .ref a_22, .int 0])), (a_2, .inl (G.2 0, 5740, .inl (upd (upd (upd (fun _ => 0) 3 (-1)) 4 1000) 6 (-1)))), (a_15, .inl (G.2 0, 200, .inl f_p))] sz) := by
  refine Met.ofW (cc := cX12_go) (maxL := 7) (ret := none) (by decide) rfl ?_
  intro p e s m args below meth c s₁ B hml hv
  obtain ⟨rfl, hsz, hP, hK, hD0, hN, hT⟩ := hv
  have hx := B.exec
  have hb := B.bytes
  have hr := B.returns
  have hts : ∀ w ∈ tblG, w.before _ s = true := fun w h => atoms_spec (ws := (wsG yX12_go cX12_go 7 none)) B.pre w (List.mem_cons_of_mem _ h)
  have hown : s.vm.findClass RX12 = some m.cls := findClass_of_methodNamed B.named
  have hlocks := B.notSynchronized
  subst hsz
  have hD := hD0.self (sz := s.heap.size)
  generalize hAe : va_A [(a_y, .inr (12, [.int 0, .int 0, .ref a_1, .ref a_2, .ref a_3, .ref a_4, .int 0, .ref a_5, .int 0, .int 0, .int 0, .int 0, .long 0, .int (-1), .int 0, .int 0, .ref a_6, .int 0, .ref a_7, .ref a_8, .int 0, .ref a_9, .ref a_10, .int 0, .int 0, .ref a_11, .ref a_12, .int 0, .ref a_13, .ref a_14, .int 0, .long 0, .long 0, .int e_cell, .int e_hour, .int e_way, .int e_bright, .int e_points, .ref a_15, .int e_through, .int e_seen, .ref a_16, .int 0, .ref a_17, .ref a_18, .ref a_19, .int 0, .ref a_20, .ref a_21, .long 0, .ref a_22, .int 0])), (a_2, .inl (G.2 0, 5740, .inl (upd (upd (upd (fun _ => 0) 3 (-1)) 4 1000) 6 (-1)))), (a_15, .inl (G.2 0, 200, .inl f_p))] s.heap.size = A at hD hT ⊢
  have hA : ∀ q : Nat, s.heap.size ≤ q → A q := fun q h => by rw [← hAe]; exact Or.inr h
  have hS : va_S A s.heap s.heap [] := va_S.rf
  have hP : va_P G.1 vwCl [(a_y, .inr (12, [.int 0, .int 0, .ref a_1, .ref a_2, .ref a_3, .ref a_4, .int 0, .ref a_5, .int 0, .int 0, .int 0, .int 0, .long 0, .int (-1), .int 0, .int 0, .ref a_6, .int 0, .ref a_7, .ref a_8, .int 0, .ref a_9, .ref a_10, .int 0, .int 0, .ref a_11, .ref a_12, .int 0, .ref a_13, .ref a_14, .int 0, .long 0, .long 0, .int e_cell, .int e_hour, .int e_way, .int e_bright, .int e_points, .ref a_15, .int e_through, .int e_seen, .ref a_16, .int 0, .ref a_17, .ref a_18, .ref a_19, .int 0, .ref a_20, .ref a_21, .long 0, .ref a_22, .int 0])), (a_2, .inl (G.2 0, 5740, .inl (upd (upd (upd (fun _ => 0) 3 (-1)) 4 1000) 6 (-1)))), (a_15, .inl (G.2 0, 200, .inl f_p))] s.heap := hP
  have hl := lv_entry ([.ref a_y, .int p_c, .int 2, .int p_h, .int p_s]) (n := 7) (Nat.le_of_ble_eq_true rfl)
  rw [lg_entry_eq]
  generalize (lg_sl ([.ref a_y, .int p_c, .int 2, .int p_h, .int p_s]) ++ List.replicate (7 - (lg_sl ([.ref a_y, .int p_c, .int 2, .int p_h, .int p_s])).length) Slot.unset).toArray = ls at hl ⊢
  have hl : lv_has ls 7 [(0, .ref a_y), (1, .int p_c), (2, .int 2), (3, .int p_h), (4, .int p_s)] := hl
  refine lv_aload_n hx hb dX12_go_0 rfl (lv_at hl 0 rfl) ?_
  refine lv_iload_n hx hb dX12_go_1 rfl (lv_at hl 1 rfl) ?_
  refine va_put (D := G.1) (ci := 12) (v := .int p_c) (ty := .int) (C := RX12) (T := TX12) (N := 52) hx hb hts inG_X12 tyX12 tyX12_ok nmX12 hown hK hP hD hS 0 rfl rfl 33 (by decide) (hts _ fl_X12_349) (fun _ h9 => h9) rfl (by decide +kernel) rfl rfl (Nat.le_of_ble_eq_true rfl) dX12_go_2 (fun H locs hP hD hS => ?_)
  have hP : va_P G.1 vwCl [(a_y, .inr (12, [.int 0, .int 0, .ref a_1, .ref a_2, .ref a_3, .ref a_4, .int 0, .ref a_5, .int 0, .int 0, .int 0, .int 0, .long 0, .int (-1), .int 0, .int 0, .ref a_6, .int 0, .ref a_7, .ref a_8, .int 0, .ref a_9, .ref a_10, .int 0, .int 0, .ref a_11, .ref a_12, .int 0, .ref a_13, .ref a_14, .int 0, .long 0, .long 0, .int p_c, .int e_hour, .int e_way, .int e_bright, .int e_points, .ref a_15, .int e_through, .int e_seen, .ref a_16, .int 0, .ref a_17, .ref a_18, .ref a_19, .int 0, .ref a_20, .ref a_21, .long 0, .ref a_22, .int 0])), (a_2, .inl (G.2 0, 5740, .inl (upd (upd (upd (fun _ => 0) 3 (-1)) 4 1000) 6 (-1)))), (a_15, .inl (G.2 0, 200, .inl f_p))] H := hP
  have hD : va_D A [(a_y, .inr (12, [.int 0, .int 0, .ref a_1, .ref a_2, .ref a_3, .ref a_4, .int 0, .ref a_5, .int 0, .int 0, .int 0, .int 0, .long 0, .int (-1), .int 0, .int 0, .ref a_6, .int 0, .ref a_7, .ref a_8, .int 0, .ref a_9, .ref a_10, .int 0, .int 0, .ref a_11, .ref a_12, .int 0, .ref a_13, .ref a_14, .int 0, .long 0, .long 0, .int p_c, .int e_hour, .int e_way, .int e_bright, .int e_points, .ref a_15, .int e_through, .int e_seen, .ref a_16, .int 0, .ref a_17, .ref a_18, .ref a_19, .int 0, .ref a_20, .ref a_21, .long 0, .ref a_22, .int 0])), (a_2, .inl (G.2 0, 5740, .inl (upd (upd (upd (fun _ => 0) 3 (-1)) 4 1000) 6 (-1)))), (a_15, .inl (G.2 0, 200, .inl f_p))] := hD
  refine lv_aload_n hx hb dX12_go_5 rfl (lv_at hl 0 rfl) ?_
  refine lv_iload_n hx hb dX12_go_6 rfl (lv_at hl 2 rfl) ?_
  refine va_put (D := G.1) (ci := 12) (v := .int 2) (ty := .int) (C := RX12) (T := TX12) (N := 52) hx hb hts inG_X12 tyX12 tyX12_ok nmX12 hown hK hP hD hS 0 rfl rfl 35 (by decide) (hts _ fl_X12_355) (fun _ h9 => h9) rfl (by decide +kernel) rfl rfl (Nat.le_of_ble_eq_true rfl) dX12_go_7 (fun H locs hP hD hS => ?_)
  have hP : va_P G.1 vwCl [(a_y, .inr (12, [.int 0, .int 0, .ref a_1, .ref a_2, .ref a_3, .ref a_4, .int 0, .ref a_5, .int 0, .int 0, .int 0, .int 0, .long 0, .int (-1), .int 0, .int 0, .ref a_6, .int 0, .ref a_7, .ref a_8, .int 0, .ref a_9, .ref a_10, .int 0, .int 0, .ref a_11, .ref a_12, .int 0, .ref a_13, .ref a_14, .int 0, .long 0, .long 0, .int p_c, .int e_hour, .int 2, .int e_bright, .int e_points, .ref a_15, .int e_through, .int e_seen, .ref a_16, .int 0, .ref a_17, .ref a_18, .ref a_19, .int 0, .ref a_20, .ref a_21, .long 0, .ref a_22, .int 0])), (a_2, .inl (G.2 0, 5740, .inl (upd (upd (upd (fun _ => 0) 3 (-1)) 4 1000) 6 (-1)))), (a_15, .inl (G.2 0, 200, .inl f_p))] H := hP
  have hD : va_D A [(a_y, .inr (12, [.int 0, .int 0, .ref a_1, .ref a_2, .ref a_3, .ref a_4, .int 0, .ref a_5, .int 0, .int 0, .int 0, .int 0, .long 0, .int (-1), .int 0, .int 0, .ref a_6, .int 0, .ref a_7, .ref a_8, .int 0, .ref a_9, .ref a_10, .int 0, .int 0, .ref a_11, .ref a_12, .int 0, .ref a_13, .ref a_14, .int 0, .long 0, .long 0, .int p_c, .int e_hour, .int 2, .int e_bright, .int e_points, .ref a_15, .int e_through, .int e_seen, .ref a_16, .int 0, .ref a_17, .ref a_18, .ref a_19, .int 0, .ref a_20, .ref a_21, .long 0, .ref a_22, .int 0])), (a_2, .inl (G.2 0, 5740, .inl (upd (upd (upd (fun _ => 0) 3 (-1)) 4 1000) 6 (-1)))), (a_15, .inl (G.2 0, 200, .inl f_p))] := hD
  refine lv_aload_n hx hb dX12_go_10 rfl (lv_at hl 0 rfl) ?_
  refine lv_iload_n hx hb dX12_go_11 rfl (lv_at hl 3 rfl) ?_
  refine va_put (D := G.1) (ci := 12) (v := .int p_h) (ty := .int) (C := RX12) (T := TX12) (N := 52) hx hb hts inG_X12 tyX12 tyX12_ok nmX12 hown hK hP hD hS 0 rfl rfl 34 (by decide) (hts _ fl_X12_352) (fun _ h9 => h9) rfl (by decide +kernel) rfl rfl (Nat.le_of_ble_eq_true rfl) dX12_go_12 (fun H locs hP hD hS => ?_)
  have hP : va_P G.1 vwCl [(a_y, .inr (12, [.int 0, .int 0, .ref a_1, .ref a_2, .ref a_3, .ref a_4, .int 0, .ref a_5, .int 0, .int 0, .int 0, .int 0, .long 0, .int (-1), .int 0, .int 0, .ref a_6, .int 0, .ref a_7, .ref a_8, .int 0, .ref a_9, .ref a_10, .int 0, .int 0, .ref a_11, .ref a_12, .int 0, .ref a_13, .ref a_14, .int 0, .long 0, .long 0, .int p_c, .int p_h, .int 2, .int e_bright, .int e_points, .ref a_15, .int e_through, .int e_seen, .ref a_16, .int 0, .ref a_17, .ref a_18, .ref a_19, .int 0, .ref a_20, .ref a_21, .long 0, .ref a_22, .int 0])), (a_2, .inl (G.2 0, 5740, .inl (upd (upd (upd (fun _ => 0) 3 (-1)) 4 1000) 6 (-1)))), (a_15, .inl (G.2 0, 200, .inl f_p))] H := hP
  have hD : va_D A [(a_y, .inr (12, [.int 0, .int 0, .ref a_1, .ref a_2, .ref a_3, .ref a_4, .int 0, .ref a_5, .int 0, .int 0, .int 0, .int 0, .long 0, .int (-1), .int 0, .int 0, .ref a_6, .int 0, .ref a_7, .ref a_8, .int 0, .ref a_9, .ref a_10, .int 0, .int 0, .ref a_11, .ref a_12, .int 0, .ref a_13, .ref a_14, .int 0, .long 0, .long 0, .int p_c, .int p_h, .int 2, .int e_bright, .int e_points, .ref a_15, .int e_through, .int e_seen, .ref a_16, .int 0, .ref a_17, .ref a_18, .ref a_19, .int 0, .ref a_20, .ref a_21, .long 0, .ref a_22, .int 0])), (a_2, .inl (G.2 0, 5740, .inl (upd (upd (upd (fun _ => 0) 3 (-1)) 4 1000) 6 (-1)))), (a_15, .inl (G.2 0, 200, .inl f_p))] := hD
  refine lv_aload_n hx hb dX12_go_15 rfl (lv_at hl 0 rfl) ?_
  refine lv_ldcw (v := 1000000) hx hb hown (hts _ ki_X12_367) dX12_go_16 ?_
  refine va_put (D := G.1) (ci := 12) (v := .int 1000000) (ty := .int) (C := RX12) (T := TX12) (N := 52) hx hb hts inG_X12 tyX12 tyX12_ok nmX12 hown hK hP hD hS 0 rfl rfl 36 (by decide) (hts _ fl_X12_361) (fun _ h9 => h9) rfl (by decide +kernel) rfl rfl (Nat.le_of_ble_eq_true rfl) dX12_go_19 (fun H locs hP hD hS => ?_)
  have hP : va_P G.1 vwCl [(a_y, .inr (12, [.int 0, .int 0, .ref a_1, .ref a_2, .ref a_3, .ref a_4, .int 0, .ref a_5, .int 0, .int 0, .int 0, .int 0, .long 0, .int (-1), .int 0, .int 0, .ref a_6, .int 0, .ref a_7, .ref a_8, .int 0, .ref a_9, .ref a_10, .int 0, .int 0, .ref a_11, .ref a_12, .int 0, .ref a_13, .ref a_14, .int 0, .long 0, .long 0, .int p_c, .int p_h, .int 2, .int 1000000, .int e_points, .ref a_15, .int e_through, .int e_seen, .ref a_16, .int 0, .ref a_17, .ref a_18, .ref a_19, .int 0, .ref a_20, .ref a_21, .long 0, .ref a_22, .int 0])), (a_2, .inl (G.2 0, 5740, .inl (upd (upd (upd (fun _ => 0) 3 (-1)) 4 1000) 6 (-1)))), (a_15, .inl (G.2 0, 200, .inl f_p))] H := hP
  have hD : va_D A [(a_y, .inr (12, [.int 0, .int 0, .ref a_1, .ref a_2, .ref a_3, .ref a_4, .int 0, .ref a_5, .int 0, .int 0, .int 0, .int 0, .long 0, .int (-1), .int 0, .int 0, .ref a_6, .int 0, .ref a_7, .ref a_8, .int 0, .ref a_9, .ref a_10, .int 0, .int 0, .ref a_11, .ref a_12, .int 0, .ref a_13, .ref a_14, .int 0, .long 0, .long 0, .int p_c, .int p_h, .int 2, .int 1000000, .int e_points, .ref a_15, .int e_through, .int e_seen, .ref a_16, .int 0, .ref a_17, .ref a_18, .ref a_19, .int 0, .ref a_20, .ref a_21, .long 0, .ref a_22, .int 0])), (a_2, .inl (G.2 0, 5740, .inl (upd (upd (upd (fun _ => 0) 3 (-1)) 4 1000) 6 (-1)))), (a_15, .inl (G.2 0, 200, .inl f_p))] := hD
  refine lv_aload_n hx hb dX12_go_22 rfl (lv_at hl 0 rfl) ?_
  refine lv_iconst (v := 0) hx hb dX12_go_23 (by decide) ?_
  refine va_put (D := G.1) (ci := 12) (v := .int 0) (ty := .int) (C := RX12) (T := TX12) (N := 52) hx hb hts inG_X12 tyX12 tyX12_ok nmX12 hown hK hP hD hS 0 rfl rfl 37 (by decide) (hts _ fl_X12_358) (fun _ h9 => h9) rfl (by decide +kernel) rfl rfl (Nat.le_of_ble_eq_true rfl) dX12_go_24 (fun H locs hP hD hS => ?_)
  have hP : va_P G.1 vwCl [(a_y, .inr (12, [.int 0, .int 0, .ref a_1, .ref a_2, .ref a_3, .ref a_4, .int 0, .ref a_5, .int 0, .int 0, .int 0, .int 0, .long 0, .int (-1), .int 0, .int 0, .ref a_6, .int 0, .ref a_7, .ref a_8, .int 0, .ref a_9, .ref a_10, .int 0, .int 0, .ref a_11, .ref a_12, .int 0, .ref a_13, .ref a_14, .int 0, .long 0, .long 0, .int p_c, .int p_h, .int 2, .int 1000000, .int 0, .ref a_15, .int e_through, .int e_seen, .ref a_16, .int 0, .ref a_17, .ref a_18, .ref a_19, .int 0, .ref a_20, .ref a_21, .long 0, .ref a_22, .int 0])), (a_2, .inl (G.2 0, 5740, .inl (upd (upd (upd (fun _ => 0) 3 (-1)) 4 1000) 6 (-1)))), (a_15, .inl (G.2 0, 200, .inl f_p))] H := hP
  have hD : va_D A [(a_y, .inr (12, [.int 0, .int 0, .ref a_1, .ref a_2, .ref a_3, .ref a_4, .int 0, .ref a_5, .int 0, .int 0, .int 0, .int 0, .long 0, .int (-1), .int 0, .int 0, .ref a_6, .int 0, .ref a_7, .ref a_8, .int 0, .ref a_9, .ref a_10, .int 0, .int 0, .ref a_11, .ref a_12, .int 0, .ref a_13, .ref a_14, .int 0, .long 0, .long 0, .int p_c, .int p_h, .int 2, .int 1000000, .int 0, .ref a_15, .int e_through, .int e_seen, .ref a_16, .int 0, .ref a_17, .ref a_18, .ref a_19, .int 0, .ref a_20, .ref a_21, .long 0, .ref a_22, .int 0])), (a_2, .inl (G.2 0, 5740, .inl (upd (upd (upd (fun _ => 0) 3 (-1)) 4 1000) 6 (-1)))), (a_15, .inl (G.2 0, 200, .inl f_p))] := hD
  refine lv_aload_n hx hb dX12_go_27 rfl (lv_at hl 0 rfl) ?_
  refine lv_iconst (v := 0) hx hb dX12_go_28 (by decide) ?_
  refine va_put (D := G.1) (ci := 12) (v := .int 0) (ty := .int) (C := RX12) (T := TX12) (N := 52) hx hb hts inG_X12 tyX12 tyX12_ok nmX12 hown hK hP hD hS 0 rfl rfl 39 (by decide) (hts _ fl_X12_368) (fun _ h9 => h9) rfl (by decide +kernel) rfl rfl (Nat.le_of_ble_eq_true rfl) dX12_go_29 (fun H locs hP hD hS => ?_)
  have hP : va_P G.1 vwCl [(a_y, .inr (12, [.int 0, .int 0, .ref a_1, .ref a_2, .ref a_3, .ref a_4, .int 0, .ref a_5, .int 0, .int 0, .int 0, .int 0, .long 0, .int (-1), .int 0, .int 0, .ref a_6, .int 0, .ref a_7, .ref a_8, .int 0, .ref a_9, .ref a_10, .int 0, .int 0, .ref a_11, .ref a_12, .int 0, .ref a_13, .ref a_14, .int 0, .long 0, .long 0, .int p_c, .int p_h, .int 2, .int 1000000, .int 0, .ref a_15, .int 0, .int e_seen, .ref a_16, .int 0, .ref a_17, .ref a_18, .ref a_19, .int 0, .ref a_20, .ref a_21, .long 0, .ref a_22, .int 0])), (a_2, .inl (G.2 0, 5740, .inl (upd (upd (upd (fun _ => 0) 3 (-1)) 4 1000) 6 (-1)))), (a_15, .inl (G.2 0, 200, .inl f_p))] H := hP
  have hD : va_D A [(a_y, .inr (12, [.int 0, .int 0, .ref a_1, .ref a_2, .ref a_3, .ref a_4, .int 0, .ref a_5, .int 0, .int 0, .int 0, .int 0, .long 0, .int (-1), .int 0, .int 0, .ref a_6, .int 0, .ref a_7, .ref a_8, .int 0, .ref a_9, .ref a_10, .int 0, .int 0, .ref a_11, .ref a_12, .int 0, .ref a_13, .ref a_14, .int 0, .long 0, .long 0, .int p_c, .int p_h, .int 2, .int 1000000, .int 0, .ref a_15, .int 0, .int e_seen, .ref a_16, .int 0, .ref a_17, .ref a_18, .ref a_19, .int 0, .ref a_20, .ref a_21, .long 0, .ref a_22, .int 0])), (a_2, .inl (G.2 0, 5740, .inl (upd (upd (upd (fun _ => 0) 3 (-1)) 4 1000) 6 (-1)))), (a_15, .inl (G.2 0, 200, .inl f_p))] := hD
  refine lv_aload_n hx hb dX12_go_32 rfl (lv_at hl 0 rfl) ?_
  refine lv_iconst (v := (-1)) hx hb dX12_go_33 (by decide) ?_
  refine va_put (D := G.1) (ci := 12) (v := .int (-1)) (ty := .int) (C := RX12) (T := TX12) (N := 52) hx hb hts inG_X12 tyX12 tyX12_ok nmX12 hown hK hP hD hS 0 rfl rfl 40 (by decide) (hts _ fl_X12_371) (fun _ h9 => h9) rfl (by decide +kernel) rfl rfl (Nat.le_of_ble_eq_true rfl) dX12_go_34 (fun H locs hP hD hS => ?_)
  have hP : va_P G.1 vwCl [(a_y, .inr (12, [.int 0, .int 0, .ref a_1, .ref a_2, .ref a_3, .ref a_4, .int 0, .ref a_5, .int 0, .int 0, .int 0, .int 0, .long 0, .int (-1), .int 0, .int 0, .ref a_6, .int 0, .ref a_7, .ref a_8, .int 0, .ref a_9, .ref a_10, .int 0, .int 0, .ref a_11, .ref a_12, .int 0, .ref a_13, .ref a_14, .int 0, .long 0, .long 0, .int p_c, .int p_h, .int 2, .int 1000000, .int 0, .ref a_15, .int 0, .int (-1), .ref a_16, .int 0, .ref a_17, .ref a_18, .ref a_19, .int 0, .ref a_20, .ref a_21, .long 0, .ref a_22, .int 0])), (a_2, .inl (G.2 0, 5740, .inl (upd (upd (upd (fun _ => 0) 3 (-1)) 4 1000) 6 (-1)))), (a_15, .inl (G.2 0, 200, .inl f_p))] H := hP
  have hD : va_D A [(a_y, .inr (12, [.int 0, .int 0, .ref a_1, .ref a_2, .ref a_3, .ref a_4, .int 0, .ref a_5, .int 0, .int 0, .int 0, .int 0, .long 0, .int (-1), .int 0, .int 0, .ref a_6, .int 0, .ref a_7, .ref a_8, .int 0, .ref a_9, .ref a_10, .int 0, .int 0, .ref a_11, .ref a_12, .int 0, .ref a_13, .ref a_14, .int 0, .long 0, .long 0, .int p_c, .int p_h, .int 2, .int 1000000, .int 0, .ref a_15, .int 0, .int (-1), .ref a_16, .int 0, .ref a_17, .ref a_18, .ref a_19, .int 0, .ref a_20, .ref a_21, .long 0, .ref a_22, .int 0])), (a_2, .inl (G.2 0, 5740, .inl (upd (upd (upd (fun _ => 0) 3 (-1)) 4 1000) 6 (-1)))), (a_15, .inl (G.2 0, 200, .inl f_p))] := hD
  refine lv_iconst (v := 1) hx hb dX12_go_37 (by decide) ?_
  refine lv_istore (lv' := [(5, .int 1), (0, .ref a_y), (1, .int p_c), (2, .int 2), (3, .int p_h), (4, .int p_s)]) hx hb dX12_go_38 hl (by decide) rfl (fun ls hl => ?_)
  refine g5_loop (α := (Int32) × (Int32) × (Int32) × (Nat → Int32)) (fun (q : (Int32) × (Int32) × (Int32) × (Nat → Int32)) (ls : Array Slot) (H : Heap) (locs : List Loc) => match q with | (k_m, k_n, k_c, k_f) => lv_has ls 7 [(5, .int k_m), (0, .ref a_y), (1, .int p_c), (2, .int 2), (3, .int p_h), (4, .int p_s)] ∧ va_P G.1 vwCl [(a_y, .inr (12, [.int 0, .int 0, .ref a_1, .ref a_2, .ref a_3, .ref a_4, .int 0, .ref a_5, .int 0, .int 0, .int 0, .int 0, .long 0, .int (-1), .int 0, .int 0, .ref a_6, .int 0, .ref a_7, .ref a_8, .int 0, .ref a_9, .ref a_10, .int 0, .int 0, .ref a_11, .ref a_12, .int 0, .ref a_13, .ref a_14, .int 0, .long 0, .long 0, .int k_c, .int p_h, .int 2, .int 1000000, .int k_n, .ref a_15, .int 0, .int (-1), .ref a_16, .int 0, .ref a_17, .ref a_18, .ref a_19, .int 0, .ref a_20, .ref a_21, .long 0, .ref a_22, .int 0])), (a_2, .inl (G.2 0, 5740, .inl (upd (upd (upd (fun _ => 0) 3 (-1)) 4 1000) 6 (-1)))), (a_15, .inl (G.2 0, 200, .inl k_f))] H ∧ va_D A [(a_y, .inr (12, [.int 0, .int 0, .ref a_1, .ref a_2, .ref a_3, .ref a_4, .int 0, .ref a_5, .int 0, .int 0, .int 0, .int 0, .long 0, .int (-1), .int 0, .int 0, .ref a_6, .int 0, .ref a_7, .ref a_8, .int 0, .ref a_9, .ref a_10, .int 0, .int 0, .ref a_11, .ref a_12, .int 0, .ref a_13, .ref a_14, .int 0, .long 0, .long 0, .int k_c, .int p_h, .int 2, .int 1000000, .int k_n, .ref a_15, .int 0, .int (-1), .ref a_16, .int 0, .ref a_17, .ref a_18, .ref a_19, .int 0, .ref a_20, .ref a_21, .long 0, .ref a_22, .int 0])), (a_2, .inl (G.2 0, 5740, .inl (upd (upd (upd (fun _ => 0) 3 (-1)) 4 1000) 6 (-1)))), (a_15, .inl (G.2 0, 200, .inl k_f))] ∧ va_S A s.heap H locs ∧ (0 ≤ k_m.toInt ∧ k_m.toInt ≤ 1) ∧ (0 ≤ k_n.toInt ∧ k_n.toInt ≤ 7) ∧ (0 ≤ k_c.toInt ∧ k_c.toInt ≤ 63) ∧ (k_n.toInt ≤ 7 - p_c.toInt / 8) ∧ (k_c.toInt = p_c.toInt + 8 * k_n.toInt) ∧ (k_m.toInt = 0 → k_n.toInt = 7 - p_c.toInt / 8) ∧ (∀ j : Nat, (j : Int) < k_n.toInt → (k_f j).toInt = p_h.toInt * 64 + (p_c.toInt + 8 * ((j : Int) + 1)))) (fun (q : (Int32) × (Int32) × (Int32) × (Nat → Int32)) => match q with | (k_m, k_n, k_c, k_f) => Int.toNat (2 * (8 - k_n.toInt) + k_m.toInt)) (1, 0, p_c, f_p) ⟨lv_sub hl [0, 1, 2, 3, 4, 5] rfl, hP, hD, hS, ⟨by decide, by decide⟩, ⟨by decide, by decide⟩, ⟨by omega, by omega⟩, by have z0 : (0 : Int32).toInt = 0 := (by decide); omega, by have z0 : (0 : Int32).toInt = 0 := (by decide); omega, fun h => absurd h (by decide), fun j h => absurd h (by have z : (0 : Int32).toInt = 0 := (by decide); omega)⟩ ?_
  rintro ⟨k_m, k_n, k_c, k_f⟩ ls H locs ⟨hl, hP, hD, hS, i_1, i_2, i_3, i_4, i_5, i_6, i_7⟩ ih_40_8
  have hl : lv_has ls 7 [(5, .int k_m), (0, .ref a_y), (1, .int p_c), (2, .int 2), (3, .int p_h), (4, .int p_s)] := hl
  have i_1 : 0 ≤ k_m.toInt ∧ k_m.toInt ≤ 1 := i_1
  have i_2 : 0 ≤ k_n.toInt ∧ k_n.toInt ≤ 7 := i_2
  have i_3 : 0 ≤ k_c.toInt ∧ k_c.toInt ≤ 63 := i_3
  have i_4 : k_n.toInt ≤ 7 - p_c.toInt / 8 := i_4
  have i_5 : k_c.toInt = p_c.toInt + 8 * k_n.toInt := i_5
  have i_6 : k_m.toInt = 0 → k_n.toInt = 7 - p_c.toInt / 8 := i_6
  have i_7 : ∀ j : Nat, (j : Int) < k_n.toInt → (k_f j).toInt = p_h.toInt * 64 + (p_c.toInt + 8 * ((j : Int) + 1)) := i_7
  have hP : va_P G.1 vwCl [(a_y, .inr (12, [.int 0, .int 0, .ref a_1, .ref a_2, .ref a_3, .ref a_4, .int 0, .ref a_5, .int 0, .int 0, .int 0, .int 0, .long 0, .int (-1), .int 0, .int 0, .ref a_6, .int 0, .ref a_7, .ref a_8, .int 0, .ref a_9, .ref a_10, .int 0, .int 0, .ref a_11, .ref a_12, .int 0, .ref a_13, .ref a_14, .int 0, .long 0, .long 0, .int k_c, .int p_h, .int 2, .int 1000000, .int k_n, .ref a_15, .int 0, .int (-1), .ref a_16, .int 0, .ref a_17, .ref a_18, .ref a_19, .int 0, .ref a_20, .ref a_21, .long 0, .ref a_22, .int 0])), (a_2, .inl (G.2 0, 5740, .inl (upd (upd (upd (fun _ => 0) 3 (-1)) 4 1000) 6 (-1)))), (a_15, .inl (G.2 0, 200, .inl k_f))] H := hP
  have hD : va_D A [(a_y, .inr (12, [.int 0, .int 0, .ref a_1, .ref a_2, .ref a_3, .ref a_4, .int 0, .ref a_5, .int 0, .int 0, .int 0, .int 0, .long 0, .int (-1), .int 0, .int 0, .ref a_6, .int 0, .ref a_7, .ref a_8, .int 0, .ref a_9, .ref a_10, .int 0, .int 0, .ref a_11, .ref a_12, .int 0, .ref a_13, .ref a_14, .int 0, .long 0, .long 0, .int k_c, .int p_h, .int 2, .int 1000000, .int k_n, .ref a_15, .int 0, .int (-1), .ref a_16, .int 0, .ref a_17, .ref a_18, .ref a_19, .int 0, .ref a_20, .ref a_21, .long 0, .ref a_22, .int 0])), (a_2, .inl (G.2 0, 5740, .inl (upd (upd (upd (fun _ => 0) 3 (-1)) 4 1000) 6 (-1)))), (a_15, .inl (G.2 0, 200, .inl k_f))] := hD
  refine lv_iload hx hb dX12_go_40 (lv_at hl 0 rfl) ?_
  refine lv_if_eq (tgt := 167) hx hb dX12_go_42 (by decide) (fun c_9 => ?_) (fun c_9 => ?_)
  ·
    have i_9 : k_m.toInt = 0 := by have z := g5_eq (a := k_m.toInt) (b := 0) (by rfl) (by decide) c_9; omega
    exact W.vret hx hb hr (fun t ht hW => ⟨⟨[(a_y, .inr (12, [.int 0, .int 0, .ref a_1, .ref a_2, .ref a_3, .ref a_4, .int 0, .ref a_5, .int 0, .int 0, .int 0, .int 0, .long 0, .int (-1), .int 0, .int 0, .ref a_6, .int 0, .ref a_7, .ref a_8, .int 0, .ref a_9, .ref a_10, .int 0, .int 0, .ref a_11, .ref a_12, .int 0, .ref a_13, .ref a_14, .int 0, .long 0, .long 0, .int k_c, .int p_h, .int 2, .int 1000000, .int k_n, .ref a_15, .int 0, .int (-1), .ref a_16, .int 0, .ref a_17, .ref a_18, .ref a_19, .int 0, .ref a_20, .ref a_21, .long 0, .ref a_22, .int 0])), (a_2, .inl (G.2 0, 5740, .inl (upd (upd (upd (fun _ => 0) 3 (-1)) 4 1000) 6 (-1)))), (a_15, .inl (G.2 0, 200, .inl k_f))], rfl, ⟨k_n, k_c, k_f, i_6 (by omega), ⟨by omega, by omega⟩, ⟨by omega, by omega⟩, i_7, rfl⟩, by rw [ht]; exact hP.sub [0, 1, 2] rfl, hD.sub [0, 1, 2] (by decide) rfl⟩, hS.F ht⟩) hS.2.2 dX12_go_167
  ·
    have i_9 : k_m.toInt ≠ 0 := by have z := g5_eqN (a := k_m.toInt) (b := 0) (by rfl) (by decide) c_9; omega
    refine lv_aload_n hx hb dX12_go_45 rfl (lv_at hl 1 rfl) ?_
    refine va_get (D := G.1) (ci := 12) (v := .int k_n) (C := RX12) (T := TX12) (N := 52) hx hb hts inG_X12 hown hK hP 0 rfl rfl 37 (by decide) (hts _ fl_X12_358) (fun _ h9 => h9) rfl dX12_go_46 ?_
    refine lv_sipush (v := 200) hx hb dX12_go_49 (by decide) ?_
    refine lv_icmp_ge (tgt := 167) hx hb dX12_go_52 (by decide) (fun c_10 => ?_) (fun c_10 => ?_)
    ·
      have i_10 : k_n.toInt ≥ 200 := by have z := g5_ge (a := k_n.toInt) (b := 200) (by rfl) (by decide) c_10; omega
      omega
    ·
      have i_10 : k_n.toInt < 200 := by have z := g5_geN (a := k_n.toInt) (b := 200) (by rfl) (by decide) c_10; omega
      refine lv_aload_n hx hb dX12_go_55 rfl (lv_at hl 1 rfl) ?_
      refine va_get (D := G.1) (ci := 12) (v := .int k_c) (C := RX12) (T := TX12) (N := 52) hx hb hts inG_X12 hown hK hP 0 rfl rfl 33 (by decide) (hts _ fl_X12_349) (fun _ h9 => h9) rfl dX12_go_56 ?_
      refine lv_aload_n hx hb dX12_go_59 rfl (lv_at hl 1 rfl) ?_
      refine va_get (D := G.1) (ci := 12) (v := .int 2) (C := RX12) (T := TX12) (N := 52) hx hb hts inG_X12 hown hK hP 0 rfl rfl 35 (by decide) (hts _ fl_X12_355) (fun _ h9 => h9) rfl dX12_go_60 ?_
      have hPc := hP.sub (ws' := []) [] rfl
      have hDc := hD.sub (ws' := []) [] (by decide) rfl
      have hFc := va_free (wc := []) hD hS hA [] rfl
      refine va_calli (va_runS (As := [.int k_c, .int 2]) (rest := []) ⟨hx, hb, hml, hown, hts⟩ (kX12_beside_3 l G H.size k_c ⟨by omega, by omega⟩) (va_cwS 2 hts gS_X12_374 rfl rfl rfl hs_X12_beside ⟨Nat.le_of_ble_eq_true rfl, Nat.le_of_ble_eq_true rfl⟩) (g5_preS hPc hK hDc hN hT hS hFc) rfl rfl hl.1 rfl (lv_room (Nat.le_of_ble_eq_true rfl)) dX12_go_63 ⟨Nat.le_of_ble_eq_true rfl, Nat.le_of_ble_eq_true rfl⟩) hS (fun q _ h => hFc q h) hFc (fun r u t H1 locs ht hvm hw hB hz1 hk1 hS => ?_)
      obtain ⟨hP1, hD1⟩ := hB
      rw [ht] at hP1
      rcases hw with ⟨i_11, rfl, rfl⟩ | ⟨i_12, i_13, rfl, rfl⟩
      ·
        have hP := g5_same hP hk1
        generalize H1 = H at hP hS ⊢
        refine lv_istore (lv' := [(6, .int (-1)), (5, .int k_m), (0, .ref a_y), (1, .int p_c), (2, .int 2), (3, .int p_h), (4, .int p_s)]) hx hb dX12_go_66 hl (by decide) rfl (fun ls hl => ?_)
        refine lv_iload hx hb dX12_go_68 (lv_at hl 0 rfl) ?_
        refine lv_iconst (v := (-1)) hx hb dX12_go_70 (by decide) ?_
        refine lv_icmp_eq (tgt := 96) hx hb dX12_go_71 (by decide) (fun c_14 => ?_) (fun c_14 => ?_)
        ·
          refine lv_iconst (v := 0) hx hb dX12_go_96 (by decide) ?_
          refine lv_istore (lv' := [(5, .int 0), (6, .int (-1)), (0, .ref a_y), (1, .int p_c), (2, .int 2), (3, .int p_h), (4, .int p_s)]) hx hb dX12_go_97 hl (by decide) rfl (fun ls hl => ?_)
          refine lv_iload hx hb dX12_go_99 (lv_at hl 0 rfl) ?_
          refine lv_if_eq (tgt := 164) hx hb dX12_go_101 (by decide) (fun c_15 => ?_) (fun c_15 => ?_)
          ·
            refine lv_goto (tgt := 40) hx hb dX12_go_164 (by decide) ?_
            exact ih_40_8 (0, k_n, k_c, k_f) ls H locs (show Int.toNat (2 * (8 - k_n.toInt) + (0 : Int32).toInt) < Int.toNat (2 * (8 - k_n.toInt) + k_m.toInt) by have zc_k_m : (0 : Int32).toInt = 0 := (by decide); omega) ⟨lv_sub hl [0, 2, 3, 4, 5, 6] rfl, hP, hD, hS, ⟨by decide, by decide⟩, ⟨by omega, by omega⟩, ⟨by omega, by omega⟩, by omega, by omega, fun _ => by omega, i_7⟩
          ·
            exact absurd c_15 (by decide)
        ·
          exact absurd c_14 (by decide)
      ·
        have hP := g5_same hP hk1
        generalize H1 = H at hP hS ⊢
        refine lv_istore (lv' := [(6, .int (k_c + 8)), (5, .int k_m), (0, .ref a_y), (1, .int p_c), (2, .int 2), (3, .int p_h), (4, .int p_s)]) hx hb dX12_go_66 hl (by decide) rfl (fun ls hl => ?_)
        refine lv_iload hx hb dX12_go_68 (lv_at hl 0 rfl) ?_
        refine lv_iconst (v := (-1)) hx hb dX12_go_70 (by decide) ?_
        refine lv_icmp_eq (tgt := 96) hx hb dX12_go_71 (by decide) (fun c_16 => ?_) (fun c_16 => ?_)
        ·
          have i_16 : (k_c + 8).toInt = (-1) := by have z := g5_eq (a := (k_c + 8).toInt) (b := (-1)) (by rfl) (by decide) c_16; omega
          omega
        ·
          have i_16 : (k_c + 8).toInt ≠ (-1) := by have z := g5_eqN (a := (k_c + 8).toInt) (b := (-1)) (by rfl) (by decide) c_16; omega
          refine lv_aload_n hx hb dX12_go_74 rfl (lv_at hl 2 rfl) ?_
          refine lv_iload hx hb dX12_go_75 (lv_at hl 0 rfl) ?_
          refine lv_if_ge (tgt := 84) hx hb dX12_go_77 (by decide) (fun c_17 => ?_) (fun c_17 => ?_)
          ·
            have i_17 : (k_c + 8).toInt ≥ 0 := by have z := g5_ge (a := (k_c + 8).toInt) (b := 0) (by rfl) (by decide) c_17; omega
            refine lv_iload hx hb dX12_go_84 (lv_at hl 0 rfl) ?_
            have hPc := hP.sub (ws' := [(a_y, .inr (12, [.int 0, .int 0, .ref a_1, .ref a_2, .ref a_3, .ref a_4, .int 0, .ref a_5, .int 0, .int 0, .int 0, .int 0, .long 0, .int (-1), .int 0, .int 0, .ref a_6, .int 0, .ref a_7, .ref a_8, .int 0, .ref a_9, .ref a_10, .int 0, .int 0, .ref a_11, .ref a_12, .int 0, .ref a_13, .ref a_14, .int 0, .long 0, .long 0, .int k_c, .int p_h, .int 2, .int 1000000, .int k_n, .ref a_15, .int 0, .int (-1), .ref a_16, .int 0, .ref a_17, .ref a_18, .ref a_19, .int 0, .ref a_20, .ref a_21, .long 0, .ref a_22, .int 0])), (a_2, .inl (G.2 0, 5740, .inl (upd (upd (upd (fun _ => 0) 3 (-1)) 4 1000) 6 (-1))))]) [0, 1] rfl
            have hDc := hD.sub (ws' := [(a_y, .inr (12, [.int 0, .int 0, .ref a_1, .ref a_2, .ref a_3, .ref a_4, .int 0, .ref a_5, .int 0, .int 0, .int 0, .int 0, .long 0, .int (-1), .int 0, .int 0, .ref a_6, .int 0, .ref a_7, .ref a_8, .int 0, .ref a_9, .ref a_10, .int 0, .int 0, .ref a_11, .ref a_12, .int 0, .ref a_13, .ref a_14, .int 0, .long 0, .long 0, .int k_c, .int p_h, .int 2, .int 1000000, .int k_n, .ref a_15, .int 0, .int (-1), .ref a_16, .int 0, .ref a_17, .ref a_18, .ref a_19, .int 0, .ref a_20, .ref a_21, .long 0, .ref a_22, .int 0])), (a_2, .inl (G.2 0, 5740, .inl (upd (upd (upd (fun _ => 0) 3 (-1)) 4 1000) 6 (-1))))]) [0, 1] (by decide) rfl
            have hFc := va_free (wc := [(a_y, .inr (12, [.int 0, .int 0, .ref a_1, .ref a_2, .ref a_3, .ref a_4, .int 0, .ref a_5, .int 0, .int 0, .int 0, .int 0, .long 0, .int (-1), .int 0, .int 0, .ref a_6, .int 0, .ref a_7, .ref a_8, .int 0, .ref a_9, .ref a_10, .int 0, .int 0, .ref a_11, .ref a_12, .int 0, .ref a_13, .ref a_14, .int 0, .long 0, .long 0, .int k_c, .int p_h, .int 2, .int 1000000, .int k_n, .ref a_15, .int 0, .int (-1), .ref a_16, .int 0, .ref a_17, .ref a_18, .ref a_19, .int 0, .ref a_20, .ref a_21, .long 0, .ref a_22, .int 0])), (a_2, .inl (G.2 0, 5740, .inl (upd (upd (upd (fun _ => 0) 3 (-1)) 4 1000) 6 (-1))))]) hD hS hA [0, 1] rfl
            refine va_calli (va_runV (As := [.int (k_c + 8)]) (rest := []) ⟨hx, hb, hml, hown, hts⟩ (kX12_isWall_3 l G a_y a_1 a_2 a_3 a_4 a_5 a_6 a_7 a_8 a_9 a_10 a_11 a_12 a_13 a_14 a_15 a_16 a_17 a_18 a_19 a_20 a_21 a_22 H.size (k_c + 8) k_c p_h k_n ⟨by omega, by omega⟩ ⟨by omega, by omega⟩ ⟨by omega, by omega⟩ ⟨by omega, by omega⟩) (cwV 1 hts gV_X12_160 rfl rfl rfl hv_X12_isWall ⟨Nat.le_of_ble_eq_true rfl, Nat.le_of_ble_eq_true rfl⟩) (g5_preV hPc hK hDc hN hT hS hFc (ci := 12) (q0 := 0) rfl rfl) rfl rfl hl.1 rfl (lv_room (Nat.le_of_ble_eq_true rfl)) dX12_go_86 ⟨Nat.le_of_ble_eq_true rfl, Nat.le_of_ble_eq_true rfl⟩) hS (fun q _ h => hFc q h) hFc (fun r u t H1 locs ht hvm hw hB hz1 hk1 hS => ?_)
            obtain ⟨hP1, hD1⟩ := hB
            rw [ht] at hP1
            obtain ⟨rfl, rfl⟩ := hw
            obtain ⟨hP, hD⟩ := va_join (wr := [(a_15, .inl (G.2 0, 200, .inl k_f))]) (w1 := [(a_y, .inr (12, [.int 0, .int 0, .ref a_1, .ref a_2, .ref a_3, .ref a_4, .int 0, .ref a_5, .int 0, .int 0, .int 0, .int 0, .long 0, .int (-1), .int 0, .int 0, .ref a_6, .int 0, .ref a_7, .ref a_8, .int 0, .ref a_9, .ref a_10, .int 0, .int 0, .ref a_11, .ref a_12, .int 0, .ref a_13, .ref a_14, .int 0, .long 0, .long 0, .int k_c, .int p_h, .int 2, .int 1000000, .int k_n, .ref a_15, .int 0, .int (-1), .ref a_16, .int 0, .ref a_17, .ref a_18, .ref a_19, .int 0, .ref a_20, .ref a_21, .long 0, .ref a_22, .int 0])), (a_2, .inl (G.2 0, 5740, .inl (upd (upd (upd (fun _ => 0) 3 (-1)) 4 1000) 6 (-1))))]) hP hD [0, 1] [2] rfl rfl (by decide) (by decide) hk1 hFc hP1 hD1
            generalize H1 = H at hP hS ⊢
            have hP : va_P G.1 vwCl [(a_15, .inl (G.2 0, 200, .inl k_f)), (a_y, .inr (12, [.int 0, .int 0, .ref a_1, .ref a_2, .ref a_3, .ref a_4, .int 0, .ref a_5, .int 0, .int 0, .int 0, .int 0, .long 0, .int (-1), .int 0, .int 0, .ref a_6, .int 0, .ref a_7, .ref a_8, .int 0, .ref a_9, .ref a_10, .int 0, .int 0, .ref a_11, .ref a_12, .int 0, .ref a_13, .ref a_14, .int 0, .long 0, .long 0, .int k_c, .int p_h, .int 2, .int 1000000, .int k_n, .ref a_15, .int 0, .int (-1), .ref a_16, .int 0, .ref a_17, .ref a_18, .ref a_19, .int 0, .ref a_20, .ref a_21, .long 0, .ref a_22, .int 0])), (a_2, .inl (G.2 0, 5740, .inl (upd (upd (upd (fun _ => 0) 3 (-1)) 4 1000) 6 (-1))))] H := hP
            have hD : va_D A [(a_15, .inl (G.2 0, 200, .inl k_f)), (a_y, .inr (12, [.int 0, .int 0, .ref a_1, .ref a_2, .ref a_3, .ref a_4, .int 0, .ref a_5, .int 0, .int 0, .int 0, .int 0, .long 0, .int (-1), .int 0, .int 0, .ref a_6, .int 0, .ref a_7, .ref a_8, .int 0, .ref a_9, .ref a_10, .int 0, .int 0, .ref a_11, .ref a_12, .int 0, .ref a_13, .ref a_14, .int 0, .long 0, .long 0, .int k_c, .int p_h, .int 2, .int 1000000, .int k_n, .ref a_15, .int 0, .int (-1), .ref a_16, .int 0, .ref a_17, .ref a_18, .ref a_19, .int 0, .ref a_20, .ref a_21, .long 0, .ref a_22, .int 0])), (a_2, .inl (G.2 0, 5740, .inl (upd (upd (upd (fun _ => 0) 3 (-1)) 4 1000) 6 (-1))))] := hD
            refine lv_if_ne (tgt := 96) hx hb dX12_go_89 (by decide) (fun c_18 => ?_) (fun c_18 => ?_)
            ·
              exact absurd c_18 (by decide)
            ·
              refine lv_iconst (v := 1) hx hb dX12_go_92 (by decide) ?_
              refine lv_goto (tgt := 97) hx hb dX12_go_93 (by decide) ?_
              refine lv_istore (lv' := [(5, .int 1), (6, .int (k_c + 8)), (0, .ref a_y), (1, .int p_c), (2, .int 2), (3, .int p_h), (4, .int p_s)]) hx hb dX12_go_97 hl (by decide) rfl (fun ls hl => ?_)
              refine lv_iload hx hb dX12_go_99 (lv_at hl 0 rfl) ?_
              refine lv_if_eq (tgt := 164) hx hb dX12_go_101 (by decide) (fun c_19 => ?_) (fun c_19 => ?_)
              ·
                exact absurd c_19 (by decide)
              ·
                refine lv_aload_n hx hb dX12_go_104 rfl (lv_at hl 2 rfl) ?_
                refine lv_iload hx hb dX12_go_105 (lv_at hl 1 rfl) ?_
                refine va_put (D := G.1) (ci := 12) (v := .int (k_c + 8)) (ty := .int) (C := RX12) (T := TX12) (N := 52) hx hb hts inG_X12 tyX12 tyX12_ok nmX12 hown hK hP hD hS 1 rfl rfl 33 (by decide) (hts _ fl_X12_349) (fun _ h9 => h9) rfl (by decide +kernel) rfl rfl (Nat.le_of_ble_eq_true rfl) dX12_go_107 (fun H locs hP hD hS => ?_)
                have hP : va_P G.1 vwCl [(a_15, .inl (G.2 0, 200, .inl k_f)), (a_y, .inr (12, [.int 0, .int 0, .ref a_1, .ref a_2, .ref a_3, .ref a_4, .int 0, .ref a_5, .int 0, .int 0, .int 0, .int 0, .long 0, .int (-1), .int 0, .int 0, .ref a_6, .int 0, .ref a_7, .ref a_8, .int 0, .ref a_9, .ref a_10, .int 0, .int 0, .ref a_11, .ref a_12, .int 0, .ref a_13, .ref a_14, .int 0, .long 0, .long 0, .int (k_c + 8), .int p_h, .int 2, .int 1000000, .int k_n, .ref a_15, .int 0, .int (-1), .ref a_16, .int 0, .ref a_17, .ref a_18, .ref a_19, .int 0, .ref a_20, .ref a_21, .long 0, .ref a_22, .int 0])), (a_2, .inl (G.2 0, 5740, .inl (upd (upd (upd (fun _ => 0) 3 (-1)) 4 1000) 6 (-1))))] H := hP
                have hD : va_D A [(a_15, .inl (G.2 0, 200, .inl k_f)), (a_y, .inr (12, [.int 0, .int 0, .ref a_1, .ref a_2, .ref a_3, .ref a_4, .int 0, .ref a_5, .int 0, .int 0, .int 0, .int 0, .long 0, .int (-1), .int 0, .int 0, .ref a_6, .int 0, .ref a_7, .ref a_8, .int 0, .ref a_9, .ref a_10, .int 0, .int 0, .ref a_11, .ref a_12, .int 0, .ref a_13, .ref a_14, .int 0, .long 0, .long 0, .int (k_c + 8), .int p_h, .int 2, .int 1000000, .int k_n, .ref a_15, .int 0, .int (-1), .ref a_16, .int 0, .ref a_17, .ref a_18, .ref a_19, .int 0, .ref a_20, .ref a_21, .long 0, .ref a_22, .int 0])), (a_2, .inl (G.2 0, 5740, .inl (upd (upd (upd (fun _ => 0) 3 (-1)) 4 1000) 6 (-1))))] := hD
                refine lv_aload_n hx hb dX12_go_110 rfl (lv_at hl 2 rfl) ?_
                refine va_get (D := G.1) (ci := 12) (v := .ref a_15) (C := RX12) (T := TX12) (N := 52) hx hb hts inG_X12 hown hK hP 1 rfl rfl 38 (by decide) (hts _ fl_X12_82) (fun _ h9 => h9) rfl dX12_go_111 ?_
                refine lv_aload_n hx hb dX12_go_114 rfl (lv_at hl 2 rfl) ?_
                refine va_get (D := G.1) (ci := 12) (v := .int k_n) (C := RX12) (T := TX12) (N := 52) hx hb hts inG_X12 hown hK hP 1 rfl rfl 37 (by decide) (hts _ fl_X12_358) (fun _ h9 => h9) rfl dX12_go_115 ?_
                refine lv_bipush (v := 64) hx hb dX12_go_118 (by decide) ?_
                refine lv_aload_n hx hb dX12_go_120 rfl (lv_at hl 2 rfl) ?_
                refine va_get (D := G.1) (ci := 12) (v := .int p_h) (C := RX12) (T := TX12) (N := 52) hx hb hts inG_X12 hown hK hP 1 rfl rfl 34 (by decide) (hts _ fl_X12_352) (fun _ h9 => h9) rfl dX12_go_121 ?_
                refine lv_imul hx hb dX12_go_124 ?_
                have t_20 : (64 * p_h).toInt = 64 * p_h.toInt := g5_imul (a := 64) (b := p_h.toInt) (by decide) (by rfl) (by omega) (by omega)
                refine lv_aload_n hx hb dX12_go_125 rfl (lv_at hl 2 rfl) ?_
                refine va_get (D := G.1) (ci := 12) (v := .int (k_c + 8)) (C := RX12) (T := TX12) (N := 52) hx hb hts inG_X12 hown hK hP 1 rfl rfl 33 (by decide) (hts _ fl_X12_349) (fun _ h9 => h9) rfl dX12_go_126 ?_
                refine lv_iadd hx hb dX12_go_129 ?_
                have t_21 : ((64 * p_h) + (k_c + 8)).toInt = (64 * p_h).toInt + (k_c + 8).toInt := g5_iadd (a := (64 * p_h).toInt) (b := (k_c + 8).toInt) (by rfl) (by rfl) (by omega) (by omega)
                refine va_iast hx hb hK hP hD hS 0 0 rfl rfl (i := k_n) (x := ((64 * p_h) + (k_c + 8))) (vp_in_iff.mpr ⟨by omega, by omega⟩) dX12_go_130 (fun H locs hP hD hS => ?_)
                have hP : va_P G.1 vwCl [(a_15, .inl (G.2 0, 200, .inl (upd k_f k_n.toNatClampNeg ((64 * p_h) + (k_c + 8))))), (a_y, .inr (12, [.int 0, .int 0, .ref a_1, .ref a_2, .ref a_3, .ref a_4, .int 0, .ref a_5, .int 0, .int 0, .int 0, .int 0, .long 0, .int (-1), .int 0, .int 0, .ref a_6, .int 0, .ref a_7, .ref a_8, .int 0, .ref a_9, .ref a_10, .int 0, .int 0, .ref a_11, .ref a_12, .int 0, .ref a_13, .ref a_14, .int 0, .long 0, .long 0, .int (k_c + 8), .int p_h, .int 2, .int 1000000, .int k_n, .ref a_15, .int 0, .int (-1), .ref a_16, .int 0, .ref a_17, .ref a_18, .ref a_19, .int 0, .ref a_20, .ref a_21, .long 0, .ref a_22, .int 0])), (a_2, .inl (G.2 0, 5740, .inl (upd (upd (upd (fun _ => 0) 3 (-1)) 4 1000) 6 (-1))))] H := hP
                have hD : va_D A [(a_15, .inl (G.2 0, 200, .inl (upd k_f k_n.toNatClampNeg ((64 * p_h) + (k_c + 8))))), (a_y, .inr (12, [.int 0, .int 0, .ref a_1, .ref a_2, .ref a_3, .ref a_4, .int 0, .ref a_5, .int 0, .int 0, .int 0, .int 0, .long 0, .int (-1), .int 0, .int 0, .ref a_6, .int 0, .ref a_7, .ref a_8, .int 0, .ref a_9, .ref a_10, .int 0, .int 0, .ref a_11, .ref a_12, .int 0, .ref a_13, .ref a_14, .int 0, .long 0, .long 0, .int (k_c + 8), .int p_h, .int 2, .int 1000000, .int k_n, .ref a_15, .int 0, .int (-1), .ref a_16, .int 0, .ref a_17, .ref a_18, .ref a_19, .int 0, .ref a_20, .ref a_21, .long 0, .ref a_22, .int 0])), (a_2, .inl (G.2 0, 5740, .inl (upd (upd (upd (fun _ => 0) 3 (-1)) 4 1000) 6 (-1))))] := hD
                refine lv_aload_n hx hb dX12_go_131 rfl (lv_at hl 2 rfl) ?_
                refine lv_dup hx hb dX12_go_132 rfl ?_
                refine va_get (D := G.1) (ci := 12) (v := .int k_n) (C := RX12) (T := TX12) (N := 52) hx hb hts inG_X12 hown hK hP 1 rfl rfl 37 (by decide) (hts _ fl_X12_358) (fun _ h9 => h9) rfl dX12_go_133 ?_
                refine lv_iconst (v := 1) hx hb dX12_go_136 (by decide) ?_
                refine lv_iadd hx hb dX12_go_137 ?_
                have t_22 : (k_n + 1).toInt = k_n.toInt + 1 := g5_iadd (a := k_n.toInt) (b := 1) (by rfl) (by decide) (by omega) (by omega)
                refine va_put (D := G.1) (ci := 12) (v := .int (k_n + 1)) (ty := .int) (C := RX12) (T := TX12) (N := 52) hx hb hts inG_X12 tyX12 tyX12_ok nmX12 hown hK hP hD hS 1 rfl rfl 37 (by decide) (hts _ fl_X12_358) (fun _ h9 => h9) rfl (by decide +kernel) rfl rfl (Nat.le_of_ble_eq_true rfl) dX12_go_138 (fun H locs hP hD hS => ?_)
                have hP : va_P G.1 vwCl [(a_15, .inl (G.2 0, 200, .inl (upd k_f k_n.toNatClampNeg ((64 * p_h) + (k_c + 8))))), (a_y, .inr (12, [.int 0, .int 0, .ref a_1, .ref a_2, .ref a_3, .ref a_4, .int 0, .ref a_5, .int 0, .int 0, .int 0, .int 0, .long 0, .int (-1), .int 0, .int 0, .ref a_6, .int 0, .ref a_7, .ref a_8, .int 0, .ref a_9, .ref a_10, .int 0, .int 0, .ref a_11, .ref a_12, .int 0, .ref a_13, .ref a_14, .int 0, .long 0, .long 0, .int (k_c + 8), .int p_h, .int 2, .int 1000000, .int (k_n + 1), .ref a_15, .int 0, .int (-1), .ref a_16, .int 0, .ref a_17, .ref a_18, .ref a_19, .int 0, .ref a_20, .ref a_21, .long 0, .ref a_22, .int 0])), (a_2, .inl (G.2 0, 5740, .inl (upd (upd (upd (fun _ => 0) 3 (-1)) 4 1000) 6 (-1))))] H := hP
                have hD : va_D A [(a_15, .inl (G.2 0, 200, .inl (upd k_f k_n.toNatClampNeg ((64 * p_h) + (k_c + 8))))), (a_y, .inr (12, [.int 0, .int 0, .ref a_1, .ref a_2, .ref a_3, .ref a_4, .int 0, .ref a_5, .int 0, .int 0, .int 0, .int 0, .long 0, .int (-1), .int 0, .int 0, .ref a_6, .int 0, .ref a_7, .ref a_8, .int 0, .ref a_9, .ref a_10, .int 0, .int 0, .ref a_11, .ref a_12, .int 0, .ref a_13, .ref a_14, .int 0, .long 0, .long 0, .int (k_c + 8), .int p_h, .int 2, .int 1000000, .int (k_n + 1), .ref a_15, .int 0, .int (-1), .ref a_16, .int 0, .ref a_17, .ref a_18, .ref a_19, .int 0, .ref a_20, .ref a_21, .long 0, .ref a_22, .int 0])), (a_2, .inl (G.2 0, 5740, .inl (upd (upd (upd (fun _ => 0) 3 (-1)) 4 1000) 6 (-1))))] := hD
                refine lv_aload_n hx hb dX12_go_141 rfl (lv_at hl 2 rfl) ?_
                have hPc := hP.sub (ws' := [(a_y, .inr (12, [.int 0, .int 0, .ref a_1, .ref a_2, .ref a_3, .ref a_4, .int 0, .ref a_5, .int 0, .int 0, .int 0, .int 0, .long 0, .int (-1), .int 0, .int 0, .ref a_6, .int 0, .ref a_7, .ref a_8, .int 0, .ref a_9, .ref a_10, .int 0, .int 0, .ref a_11, .ref a_12, .int 0, .ref a_13, .ref a_14, .int 0, .long 0, .long 0, .int (k_c + 8), .int p_h, .int 2, .int 1000000, .int (k_n + 1), .ref a_15, .int 0, .int (-1), .ref a_16, .int 0, .ref a_17, .ref a_18, .ref a_19, .int 0, .ref a_20, .ref a_21, .long 0, .ref a_22, .int 0])), (a_2, .inl (G.2 0, 5740, .inl (upd (upd (upd (fun _ => 0) 3 (-1)) 4 1000) 6 (-1))))]) [1, 2] rfl
                have hDc := hD.sub (ws' := [(a_y, .inr (12, [.int 0, .int 0, .ref a_1, .ref a_2, .ref a_3, .ref a_4, .int 0, .ref a_5, .int 0, .int 0, .int 0, .int 0, .long 0, .int (-1), .int 0, .int 0, .ref a_6, .int 0, .ref a_7, .ref a_8, .int 0, .ref a_9, .ref a_10, .int 0, .int 0, .ref a_11, .ref a_12, .int 0, .ref a_13, .ref a_14, .int 0, .long 0, .long 0, .int (k_c + 8), .int p_h, .int 2, .int 1000000, .int (k_n + 1), .ref a_15, .int 0, .int (-1), .ref a_16, .int 0, .ref a_17, .ref a_18, .ref a_19, .int 0, .ref a_20, .ref a_21, .long 0, .ref a_22, .int 0])), (a_2, .inl (G.2 0, 5740, .inl (upd (upd (upd (fun _ => 0) 3 (-1)) 4 1000) 6 (-1))))]) [1, 2] (by decide) rfl
                have hFc := va_free (wc := [(a_y, .inr (12, [.int 0, .int 0, .ref a_1, .ref a_2, .ref a_3, .ref a_4, .int 0, .ref a_5, .int 0, .int 0, .int 0, .int 0, .long 0, .int (-1), .int 0, .int 0, .ref a_6, .int 0, .ref a_7, .ref a_8, .int 0, .ref a_9, .ref a_10, .int 0, .int 0, .ref a_11, .ref a_12, .int 0, .ref a_13, .ref a_14, .int 0, .long 0, .long 0, .int (k_c + 8), .int p_h, .int 2, .int 1000000, .int (k_n + 1), .ref a_15, .int 0, .int (-1), .ref a_16, .int 0, .ref a_17, .ref a_18, .ref a_19, .int 0, .ref a_20, .ref a_21, .long 0, .ref a_22, .int 0])), (a_2, .inl (G.2 0, 5740, .inl (upd (upd (upd (fun _ => 0) 3 (-1)) 4 1000) 6 (-1))))]) hD hS hA [1, 2] rfl
                refine va_calli (va_runV (As := []) (rest := []) ⟨hx, hb, hml, hown, hts⟩ (kX12_isFree_3 l G a_y a_1 a_2 a_3 a_4 a_5 a_6 a_7 a_8 a_9 a_10 a_11 a_12 a_13 a_14 a_15 a_16 a_17 a_18 a_19 a_20 a_21 a_22 H.size (k_c + 8) p_h (k_n + 1) ⟨by omega, by omega⟩ ⟨by omega, by omega⟩ ⟨by omega, by omega⟩) (cwV 0 hts gV_X12_377 rfl rfl rfl hv_X12_isFree ⟨Nat.le_of_ble_eq_true rfl, Nat.le_of_ble_eq_true rfl⟩) (g5_preV hPc hK hDc hN hT hS hFc (ci := 12) (q0 := 0) rfl rfl) rfl rfl hl.1 rfl (lv_room (Nat.le_of_ble_eq_true rfl)) dX12_go_142 ⟨Nat.le_of_ble_eq_true rfl, Nat.le_of_ble_eq_true rfl⟩) hS (fun q _ h => hFc q h) hFc (fun r u t H1 locs ht hvm hw hB hz1 hk1 hS => ?_)
                obtain ⟨hP1, hD1⟩ := hB
                rw [ht] at hP1
                obtain ⟨rfl, rfl⟩ := hw
                obtain ⟨hP, hD⟩ := va_join (wr := [(a_15, .inl (G.2 0, 200, .inl (upd k_f k_n.toNatClampNeg ((64 * p_h) + (k_c + 8)))))]) (w1 := [(a_y, .inr (12, [.int 0, .int 0, .ref a_1, .ref a_2, .ref a_3, .ref a_4, .int 0, .ref a_5, .int 0, .int 0, .int 0, .int 0, .long 0, .int (-1), .int 0, .int 0, .ref a_6, .int 0, .ref a_7, .ref a_8, .int 0, .ref a_9, .ref a_10, .int 0, .int 0, .ref a_11, .ref a_12, .int 0, .ref a_13, .ref a_14, .int 0, .long 0, .long 0, .int (k_c + 8), .int p_h, .int 2, .int 1000000, .int (k_n + 1), .ref a_15, .int 0, .int (-1), .ref a_16, .int 0, .ref a_17, .ref a_18, .ref a_19, .int 0, .ref a_20, .ref a_21, .long 0, .ref a_22, .int 0])), (a_2, .inl (G.2 0, 5740, .inl (upd (upd (upd (fun _ => 0) 3 (-1)) 4 1000) 6 (-1))))]) hP hD [1, 2] [0] rfl rfl (by decide) (by decide) hk1 hFc hP1 hD1
                generalize H1 = H at hP hS ⊢
                have hP : va_P G.1 vwCl [(a_15, .inl (G.2 0, 200, .inl (upd k_f k_n.toNatClampNeg ((64 * p_h) + (k_c + 8))))), (a_y, .inr (12, [.int 0, .int 0, .ref a_1, .ref a_2, .ref a_3, .ref a_4, .int 0, .ref a_5, .int 0, .int 0, .int 0, .int 0, .long 0, .int (-1), .int 0, .int 0, .ref a_6, .int 0, .ref a_7, .ref a_8, .int 0, .ref a_9, .ref a_10, .int 0, .int 0, .ref a_11, .ref a_12, .int 0, .ref a_13, .ref a_14, .int 0, .long 0, .long 0, .int (k_c + 8), .int p_h, .int 2, .int 1000000, .int (k_n + 1), .ref a_15, .int 0, .int (-1), .ref a_16, .int 0, .ref a_17, .ref a_18, .ref a_19, .int 0, .ref a_20, .ref a_21, .long 0, .ref a_22, .int 0])), (a_2, .inl (G.2 0, 5740, .inl (upd (upd (upd (fun _ => 0) 3 (-1)) 4 1000) 6 (-1))))] H := hP
                have hD : va_D A [(a_15, .inl (G.2 0, 200, .inl (upd k_f k_n.toNatClampNeg ((64 * p_h) + (k_c + 8))))), (a_y, .inr (12, [.int 0, .int 0, .ref a_1, .ref a_2, .ref a_3, .ref a_4, .int 0, .ref a_5, .int 0, .int 0, .int 0, .int 0, .long 0, .int (-1), .int 0, .int 0, .ref a_6, .int 0, .ref a_7, .ref a_8, .int 0, .ref a_9, .ref a_10, .int 0, .int 0, .ref a_11, .ref a_12, .int 0, .ref a_13, .ref a_14, .int 0, .long 0, .long 0, .int (k_c + 8), .int p_h, .int 2, .int 1000000, .int (k_n + 1), .ref a_15, .int 0, .int (-1), .ref a_16, .int 0, .ref a_17, .ref a_18, .ref a_19, .int 0, .ref a_20, .ref a_21, .long 0, .ref a_22, .int 0])), (a_2, .inl (G.2 0, 5740, .inl (upd (upd (upd (fun _ => 0) 3 (-1)) 4 1000) 6 (-1))))] := hD
                refine lv_if_eq (tgt := 161) hx hb dX12_go_145 (by decide) (fun c_23 => ?_) (fun c_23 => ?_)
                ·
                  exact absurd c_23 (by decide)
                ·
                  refine lv_aload_n hx hb dX12_go_148 rfl (lv_at hl 2 rfl) ?_
                  refine lv_iload hx hb dX12_go_149 (lv_at hl 6 rfl) ?_
                  have hPc := hP.sub (ws' := [(a_y, .inr (12, [.int 0, .int 0, .ref a_1, .ref a_2, .ref a_3, .ref a_4, .int 0, .ref a_5, .int 0, .int 0, .int 0, .int 0, .long 0, .int (-1), .int 0, .int 0, .ref a_6, .int 0, .ref a_7, .ref a_8, .int 0, .ref a_9, .ref a_10, .int 0, .int 0, .ref a_11, .ref a_12, .int 0, .ref a_13, .ref a_14, .int 0, .long 0, .long 0, .int (k_c + 8), .int p_h, .int 2, .int 1000000, .int (k_n + 1), .ref a_15, .int 0, .int (-1), .ref a_16, .int 0, .ref a_17, .ref a_18, .ref a_19, .int 0, .ref a_20, .ref a_21, .long 0, .ref a_22, .int 0])), (a_2, .inl (G.2 0, 5740, .inl (upd (upd (upd (fun _ => 0) 3 (-1)) 4 1000) 6 (-1))))]) [1, 2] rfl
                  have hDc := hD.sub (ws' := [(a_y, .inr (12, [.int 0, .int 0, .ref a_1, .ref a_2, .ref a_3, .ref a_4, .int 0, .ref a_5, .int 0, .int 0, .int 0, .int 0, .long 0, .int (-1), .int 0, .int 0, .ref a_6, .int 0, .ref a_7, .ref a_8, .int 0, .ref a_9, .ref a_10, .int 0, .int 0, .ref a_11, .ref a_12, .int 0, .ref a_13, .ref a_14, .int 0, .long 0, .long 0, .int (k_c + 8), .int p_h, .int 2, .int 1000000, .int (k_n + 1), .ref a_15, .int 0, .int (-1), .ref a_16, .int 0, .ref a_17, .ref a_18, .ref a_19, .int 0, .ref a_20, .ref a_21, .long 0, .ref a_22, .int 0])), (a_2, .inl (G.2 0, 5740, .inl (upd (upd (upd (fun _ => 0) 3 (-1)) 4 1000) 6 (-1))))]) [1, 2] (by decide) rfl
                  have hFc := va_free (wc := [(a_y, .inr (12, [.int 0, .int 0, .ref a_1, .ref a_2, .ref a_3, .ref a_4, .int 0, .ref a_5, .int 0, .int 0, .int 0, .int 0, .long 0, .int (-1), .int 0, .int 0, .ref a_6, .int 0, .ref a_7, .ref a_8, .int 0, .ref a_9, .ref a_10, .int 0, .int 0, .ref a_11, .ref a_12, .int 0, .ref a_13, .ref a_14, .int 0, .long 0, .long 0, .int (k_c + 8), .int p_h, .int 2, .int 1000000, .int (k_n + 1), .ref a_15, .int 0, .int (-1), .ref a_16, .int 0, .ref a_17, .ref a_18, .ref a_19, .int 0, .ref a_20, .ref a_21, .long 0, .ref a_22, .int 0])), (a_2, .inl (G.2 0, 5740, .inl (upd (upd (upd (fun _ => 0) 3 (-1)) 4 1000) 6 (-1))))]) hD hS hA [1, 2] rfl
                  refine va_calli (va_runV (As := [.int p_s]) (rest := []) ⟨hx, hb, hml, hown, hts⟩ (kX12_passes_3 l G a_y a_1 a_2 a_3 a_4 a_5 a_6 a_7 a_8 a_9 a_10 a_11 a_12 a_13 a_14 a_15 a_16 a_17 a_18 a_19 a_20 a_21 a_22 H.size p_s (k_c + 8) p_h (k_n + 1) ⟨by omega, by omega⟩ ⟨by omega, by omega⟩ ⟨by omega, by omega⟩) (cwV 1 hts gV_X12_380 rfl rfl rfl hv_X12_passes ⟨Nat.le_of_ble_eq_true rfl, Nat.le_of_ble_eq_true rfl⟩) (g5_preV hPc hK hDc hN hT hS hFc (ci := 12) (q0 := 0) rfl rfl) rfl rfl hl.1 rfl (lv_room (Nat.le_of_ble_eq_true rfl)) dX12_go_151 ⟨Nat.le_of_ble_eq_true rfl, Nat.le_of_ble_eq_true rfl⟩) hS (fun q _ h => hFc q h) hFc (fun r u t H1 locs ht hvm hw hB hz1 hk1 hS => ?_)
                  obtain ⟨hP1, hD1⟩ := hB
                  rw [ht] at hP1
                  obtain ⟨rfl, rfl⟩ := hw
                  obtain ⟨hP, hD⟩ := va_join (wr := [(a_15, .inl (G.2 0, 200, .inl (upd k_f k_n.toNatClampNeg ((64 * p_h) + (k_c + 8)))))]) (w1 := [(a_y, .inr (12, [.int 0, .int 0, .ref a_1, .ref a_2, .ref a_3, .ref a_4, .int 0, .ref a_5, .int 0, .int 0, .int 0, .int 0, .long 0, .int (-1), .int 0, .int 0, .ref a_6, .int 0, .ref a_7, .ref a_8, .int 0, .ref a_9, .ref a_10, .int 0, .int 0, .ref a_11, .ref a_12, .int 0, .ref a_13, .ref a_14, .int 0, .long 0, .long 0, .int (k_c + 8), .int p_h, .int 2, .int 1000000, .int (k_n + 1), .ref a_15, .int 0, .int (-1), .ref a_16, .int 0, .ref a_17, .ref a_18, .ref a_19, .int 0, .ref a_20, .ref a_21, .long 0, .ref a_22, .int 0])), (a_2, .inl (G.2 0, 5740, .inl (upd (upd (upd (fun _ => 0) 3 (-1)) 4 1000) 6 (-1))))]) hP hD [1, 2] [0] rfl rfl (by decide) (by decide) hk1 hFc hP1 hD1
                  generalize H1 = H at hP hS ⊢
                  have hP : va_P G.1 vwCl [(a_15, .inl (G.2 0, 200, .inl (upd k_f k_n.toNatClampNeg ((64 * p_h) + (k_c + 8))))), (a_y, .inr (12, [.int 0, .int 0, .ref a_1, .ref a_2, .ref a_3, .ref a_4, .int 0, .ref a_5, .int 0, .int 0, .int 0, .int 0, .long 0, .int (-1), .int 0, .int 0, .ref a_6, .int 0, .ref a_7, .ref a_8, .int 0, .ref a_9, .ref a_10, .int 0, .int 0, .ref a_11, .ref a_12, .int 0, .ref a_13, .ref a_14, .int 0, .long 0, .long 0, .int (k_c + 8), .int p_h, .int 2, .int 1000000, .int (k_n + 1), .ref a_15, .int 0, .int (-1), .ref a_16, .int 0, .ref a_17, .ref a_18, .ref a_19, .int 0, .ref a_20, .ref a_21, .long 0, .ref a_22, .int 0])), (a_2, .inl (G.2 0, 5740, .inl (upd (upd (upd (fun _ => 0) 3 (-1)) 4 1000) 6 (-1))))] H := hP
                  have hD : va_D A [(a_15, .inl (G.2 0, 200, .inl (upd k_f k_n.toNatClampNeg ((64 * p_h) + (k_c + 8))))), (a_y, .inr (12, [.int 0, .int 0, .ref a_1, .ref a_2, .ref a_3, .ref a_4, .int 0, .ref a_5, .int 0, .int 0, .int 0, .int 0, .long 0, .int (-1), .int 0, .int 0, .ref a_6, .int 0, .ref a_7, .ref a_8, .int 0, .ref a_9, .ref a_10, .int 0, .int 0, .ref a_11, .ref a_12, .int 0, .ref a_13, .ref a_14, .int 0, .long 0, .long 0, .int (k_c + 8), .int p_h, .int 2, .int 1000000, .int (k_n + 1), .ref a_15, .int 0, .int (-1), .ref a_16, .int 0, .ref a_17, .ref a_18, .ref a_19, .int 0, .ref a_20, .ref a_21, .long 0, .ref a_22, .int 0])), (a_2, .inl (G.2 0, 5740, .inl (upd (upd (upd (fun _ => 0) 3 (-1)) 4 1000) 6 (-1))))] := hD
                  refine lv_if_eq (tgt := 161) hx hb dX12_go_154 (by decide) (fun c_24 => ?_) (fun c_24 => ?_)
                  ·
                    exact absurd c_24 (by decide)
                  ·
                    refine lv_iconst (v := 1) hx hb dX12_go_157 (by decide) ?_
                    refine lv_goto (tgt := 162) hx hb dX12_go_158 (by decide) ?_
                    refine lv_istore (lv' := [(5, .int 1), (6, .int (k_c + 8)), (0, .ref a_y), (1, .int p_c), (2, .int 2), (3, .int p_h), (4, .int p_s)]) hx hb dX12_go_162 hl (by decide) rfl (fun ls hl => ?_)
                    refine lv_goto (tgt := 40) hx hb dX12_go_164 (by decide) ?_
                    exact ih_40_8 (1, (k_n + 1), (k_c + 8), (upd k_f k_n.toNatClampNeg ((64 * p_h) + (k_c + 8)))) ls H locs (show Int.toNat (2 * (8 - (k_n + 1).toInt) + (1 : Int32).toInt) < Int.toNat (2 * (8 - k_n.toInt) + k_m.toInt) by have zc_k_m : (1 : Int32).toInt = 1 := (by decide); omega) ⟨lv_sub hl [0, 2, 3, 4, 5, 6] rfl, hP.sub [1, 2, 0] rfl, hD.sub [1, 2, 0] (by decide) rfl, hS, ⟨by decide, by decide⟩, ⟨by omega, by omega⟩, ⟨by omega, by omega⟩, by omega, by omega, fun h => absurd h (by decide), g5_pts (fun j => p_h.toInt * 64 + (p_c.toInt + 8 * (j + 1))) i_7 (by omega) (by omega) (by show _ = p_h.toInt * 64 + (p_c.toInt + 8 * (k_n.toInt + 1)); omega)⟩
          ·
            have i_17 : (k_c + 8).toInt < 0 := by have z := g5_geN (a := (k_c + 8).toInt) (b := 0) (by rfl) (by decide) c_17; omega
            omega
set_option maxHeartbeats 4000000 in
set_option maxRecDepth 100000 in
theorem kX12_beside_4 (l : Launch) (G : g5_G) (sz : Nat) (n0 : Int32) (h_n0 : 0 ≤ n0.toInt ∧ n0.toInt ≤ 63) : Met l yX12_beside (wsG yX12_beside cX12_beside 2 (some .int)) ({ frames := 0, cells := 0, slots := 0, locals := 0 }) (va_Pc [.int n0, .int 3] (g5_P G [] sz)) (va_Qi (fun (r : Int32) (u : va_W) => (((n0.toInt % 8) ≤ 0) ∧ (r = (-1)) ∧ (u = [])) ∨ (((n0.toInt % 8) > 0) ∧ ((n0 - 1).toInt = (n0.toInt - 1)) ∧ (r = (n0 - 1)) ∧ (u = []))) (g5_B G (va_A [] sz)) (va_A [] sz)) 0 0 (va_A [] sz) := by
  refine Met.ofW (cc := cX12_beside) (maxL := 2) (ret := (some .int)) (by decide) rfl ?_
  intro p e s m args below meth c s₁ B hml hv
  obtain ⟨rfl, hsz, hP, hK, hD0, hN, hT⟩ := hv
  have hx := B.exec
  have hb := B.bytes
  have hr := B.returns
  have hts : ∀ w ∈ tblG, w.before _ s = true := fun w h => atoms_spec (ws := (wsG yX12_beside cX12_beside 2 (some .int))) B.pre w (List.mem_cons_of_mem _ h)
  have hown : s.vm.findClass RX12 = some m.cls := findClass_of_methodNamed B.named
  have hlocks := B.notSynchronized
  subst hsz
  have hD := hD0.self (sz := s.heap.size)
  generalize hAe : va_A [] s.heap.size = A at hD hT ⊢
  have hA : ∀ q : Nat, s.heap.size ≤ q → A q := fun q h => by rw [← hAe]; exact Or.inr h
  have hS : va_S A s.heap s.heap [] := va_S.rf
  have hP : va_P G.1 vwCl [] s.heap := hP
  have hl := lv_entry ([.int n0, .int 3]) (n := 2) (Nat.le_of_ble_eq_true rfl)
  rw [lg_entry_eq]
  generalize (lg_sl ([.int n0, .int 3]) ++ List.replicate (2 - (lg_sl ([.int n0, .int 3])).length) Slot.unset).toArray = ls at hl ⊢
  have hl : lv_has ls 2 [(0, .int n0), (1, .int 3)] := hl
  refine lv_iload_n hx hb dX12_beside_0 rfl (lv_at hl 1 rfl) ?_
  refine lv_tableOut (tgt := 75) hx hb dX12_beside_1 (by decide) (by decide) ?_
  refine lv_iload_n hx hb dX12_beside_75 rfl (lv_at hl 0 rfl) ?_
  refine lv_bipush (v := 8) hx hb dX12_beside_76 (by decide) ?_
  refine lv_irem hx hb dX12_beside_78 (by decide) ?_
  have t_1 : (n0 - n0 / 8 * 8).toInt = n0.toInt % 8 := g5_irem (a := n0.toInt) (b := 8) rfl (by decide) (by omega) (by decide)
  refine lv_if_le (tgt := 88) hx hb dX12_beside_79 (by decide) (fun c_2 => ?_) (fun c_2 => ?_)
  ·
    have i_2 : (n0.toInt % 8) ≤ 0 := by have z := g5_le (a := (n0 - n0 / 8 * 8).toInt) (b := 0) (by rfl) (by decide) c_2; omega
    refine lv_iconst (v := (-1)) hx hb dX12_beside_88 (by decide) ?_
    exact W.iret (v := (-1)) hx hb hr (fun t ht hW => ⟨⟨(-1), [], rfl, Or.inl (⟨i_2, rfl, rfl⟩), by rw [ht]; exact hP, hD⟩, hS.F ht⟩) hS.2.2 dX12_beside_89
  ·
    have i_2 : (n0.toInt % 8) > 0 := by have z := g5_leN (a := (n0 - n0 / 8 * 8).toInt) (b := 0) (by rfl) (by decide) c_2; omega
    refine lv_iload_n hx hb dX12_beside_82 rfl (lv_at hl 0 rfl) ?_
    refine lv_iconst (v := 1) hx hb dX12_beside_83 (by decide) ?_
    refine lv_isub hx hb dX12_beside_84 ?_
    have t_3 : (n0 - 1).toInt = n0.toInt - 1 := g5_isub (a := n0.toInt) (b := 1) (by rfl) (by decide) (by omega) (by omega)
    refine lv_goto (tgt := 89) hx hb dX12_beside_85 (by decide) ?_
    exact W.iret (v := (n0 - 1)) hx hb hr (fun t ht hW => ⟨⟨(n0 - 1), [], rfl, Or.inr (⟨i_2, (by omega), rfl, rfl⟩), by rw [ht]; exact hP, hD⟩, hS.F ht⟩) hS.2.2 dX12_beside_89
set_option maxHeartbeats 4000000 in
set_option maxRecDepth 100000 in
theorem kX12_isWall_4 (l : Launch) (G : g5_G) (a0 a1 a2 a3 a4 a5 a6 a7 a8 a9 a10 a11 a12 a13 a14 a15 a16 a17 a18 a19 a20 a21 a22 : Nat) (sz : Nat) (n0 : Int32) (n1 : Int32) (n2 : Int32) (n3 : Int32) (h_n0 : 0 ≤ n0.toInt ∧ n0.toInt ≤ 62) (h_n1 : 0 ≤ n1.toInt ∧ n1.toInt ≤ 63) (h_n2 : 0 ≤ n2.toInt ∧ n2.toInt ≤ 23) (h_n3 : 0 ≤ n3.toInt ∧ n3.toInt ≤ 7) : Met l yX12_isWall (wsG yX12_isWall cX12_isWall 2 (some .boolean)) ({ frames := 0, cells := 0, slots := 0, locals := 0 }) (va_Pc [.ref a0, .int n0] (g5_P G [(a0, .inr (12, [.int 0, .int 0, .ref a1, .ref a2, .ref a3, .ref a4, .int 0, .ref a5, .int 0, .int 0, .int 0, .int 0, .long 0, .int (-1), .int 0, .int 0, .ref a6, .int 0, .ref a7, .ref a8, .int 0, .ref a9, .ref a10, .int 0, .int 0, .ref a11, .ref a12, .int 0, .ref a13, .ref a14, .int 0, .long 0, .long 0, .int n1, .int n2, .int 3, .int 1000000, .int n3, .ref a15, .int 0, .int (-1), .ref a16, .int 0, .ref a17, .ref a18, .ref a19, .int 0, .ref a20, .ref a21, .long 0, .ref a22, .int 0])), (a2, .inl (G.2 0, 5740, .inl (upd (upd (upd (fun _ => 0) 3 (-1)) 4 1000) 6 (-1))))] sz)) (va_Qi (fun (r : Int32) (u : va_W) => ((r = 0) ∧ (u = [(a0, .inr (12, [.int 0, .int 0, .ref a1, .ref a2, .ref a3, .ref a4, .int 0, .ref a5, .int 0, .int 0, .int 0, .int 0, .long 0, .int (-1), .int 0, .int 0, .ref a6, .int 0, .ref a7, .ref a8, .int 0, .ref a9, .ref a10, .int 0, .int 0, .ref a11, .ref a12, .int 0, .ref a13, .ref a14, .int 0, .long 0, .long 0, .int n1, .int n2, .int 3, .int 1000000, .int n3, .ref a15, .int 0, .int (-1), .ref a16, .int 0, .ref a17, .ref a18, .ref a19, .int 0, .ref a20, .ref a21, .long 0, .ref a22, .int 0])), (a2, .inl (G.2 0, 5740, .inl (upd (upd (upd (fun _ => 0) 3 (-1)) 4 1000) 6 (-1))))]))) (g5_B G (va_A [(a0, .inr (12, [.int 0, .int 0, .ref a1, .ref a2, .ref a3, .ref a4, .int 0, .ref a5, .int 0, .int 0, .int 0, .int 0, .long 0, .int (-1), .int 0, .int 0, .ref a6, .int 0, .ref a7, .ref a8, .int 0, .ref a9, .ref a10, .int 0, .int 0, .ref a11, .ref a12, .int 0, .ref a13, .ref a14, .int 0, .long 0, .long 0, .int n1, .int n2, .int 3, .int 1000000, .int n3, .ref a15, .int 0, .int (-1), .ref a16, .int 0, .ref a17, .ref a18, .ref a19, .int 0, .ref a20, .ref a21, .long 0, .ref a22, .int 0])), (a2, .inl (G.2 0, 5740, .inl (upd (upd (upd (fun _ => 0) 3 (-1)) 4 1000) 6 (-1))))] sz)) (va_A [(a0, .inr (12, [.int 0, .int 0, .ref a1, .ref a2, .ref a3, .ref a4, .int 0, .ref a5, .int 0, .int 0, .int 0, .int 0, .long 0, .int (-1), .int 0, .int 0, .ref a6, .int 0, .ref a7, .ref a8, .int 0, .ref a9, .ref a10, .int 0, .int 0, .ref a11, .ref a12, .int 0, .ref a13, .ref a14, .int 0, .long 0, .long 0, .int n1, .int n2, .int 3, .int 1000000, .int n3, .ref a15, .int 0, .int (-1), .ref a16, .int 0, .ref a17, .ref a18, .ref a19, .int 0, .ref a20, .ref a21, .long 0, .ref a22, .int 0])), (a2, .inl (G.2 0, 5740, .inl (upd (upd (upd (fun _ => 0) 3 (-1)) 4 1000) 6 (-1))))] sz)) 0 0 (va_A [(a0, .inr (12, [.int 0, .int 0, .ref a1, .ref a2, .ref a3, .ref a4, .int 0, .ref a5, .int 0, .int 0, .int 0, .int 0, .long 0, .int (-1), .int 0, .int 0, .ref a6, .int 0, .ref a7, .ref a8, .int 0, .ref a9, .ref a10, .int 0, .int 0, .ref a11, .ref a12, .int 0, .ref a13, .ref a14, .int 0, .long 0, .long 0, .int n1, .int n2, .int 3, .int 1000000, .int n3, .ref a15, .int 0, .int (-1), .ref a16, .int 0, .ref a17, .ref a18, .ref a19, .int 0, .ref a20, .ref a21, .long 0, .ref a22, .int 0])), (a2, .inl (G.2 0, 5740, .inl (upd (upd (upd (fun _ => 0) 3 (-1)) 4 1000) 6 (-1))))] sz) := by
  refine Met.ofW (cc := cX12_isWall) (maxL := 2) (ret := (some .boolean)) (by decide) rfl ?_
  intro p e s m args below meth c s₁ B hml hv
  obtain ⟨rfl, hsz, hP, hK, hD0, hN, hT⟩ := hv
  have hx := B.exec
  have hb := B.bytes
  have hr := B.returns
  have hts : ∀ w ∈ tblG, w.before _ s = true := fun w h => atoms_spec (ws := (wsG yX12_isWall cX12_isWall 2 (some .boolean))) B.pre w (List.mem_cons_of_mem _ h)
  have hown : s.vm.findClass RX12 = some m.cls := findClass_of_methodNamed B.named
  have hlocks := B.notSynchronized
  subst hsz
  have hD := hD0.self (sz := s.heap.size)
  generalize hAe : va_A [(a0, .inr (12, [.int 0, .int 0, .ref a1, .ref a2, .ref a3, .ref a4, .int 0, .ref a5, .int 0, .int 0, .int 0, .int 0, .long 0, .int (-1), .int 0, .int 0, .ref a6, .int 0, .ref a7, .ref a8, .int 0, .ref a9, .ref a10, .int 0, .int 0, .ref a11, .ref a12, .int 0, .ref a13, .ref a14, .int 0, .long 0, .long 0, .int n1, .int n2, .int 3, .int 1000000, .int n3, .ref a15, .int 0, .int (-1), .ref a16, .int 0, .ref a17, .ref a18, .ref a19, .int 0, .ref a20, .ref a21, .long 0, .ref a22, .int 0])), (a2, .inl (G.2 0, 5740, .inl (upd (upd (upd (fun _ => 0) 3 (-1)) 4 1000) 6 (-1))))] s.heap.size = A at hD hT ⊢
  have hA : ∀ q : Nat, s.heap.size ≤ q → A q := fun q h => by rw [← hAe]; exact Or.inr h
  have hS : va_S A s.heap s.heap [] := va_S.rf
  have hP : va_P G.1 vwCl [(a0, .inr (12, [.int 0, .int 0, .ref a1, .ref a2, .ref a3, .ref a4, .int 0, .ref a5, .int 0, .int 0, .int 0, .int 0, .long 0, .int (-1), .int 0, .int 0, .ref a6, .int 0, .ref a7, .ref a8, .int 0, .ref a9, .ref a10, .int 0, .int 0, .ref a11, .ref a12, .int 0, .ref a13, .ref a14, .int 0, .long 0, .long 0, .int n1, .int n2, .int 3, .int 1000000, .int n3, .ref a15, .int 0, .int (-1), .ref a16, .int 0, .ref a17, .ref a18, .ref a19, .int 0, .ref a20, .ref a21, .long 0, .ref a22, .int 0])), (a2, .inl (G.2 0, 5740, .inl (upd (upd (upd (fun _ => 0) 3 (-1)) 4 1000) 6 (-1))))] s.heap := hP
  have hl := lv_entry ([.ref a0, .int n0]) (n := 2) (Nat.le_of_ble_eq_true rfl)
  rw [lg_entry_eq]
  generalize (lg_sl ([.ref a0, .int n0]) ++ List.replicate (2 - (lg_sl ([.ref a0, .int n0])).length) Slot.unset).toArray = ls at hl ⊢
  have hl : lv_has ls 2 [(0, .ref a0), (1, .int n0)] := hl
  refine lv_aload_n hx hb dX12_isWall_0 rfl (lv_at hl 0 rfl) ?_
  refine va_get (D := G.1) (ci := 12) (v := .ref a2) (C := RX12) (T := TX12) (N := 52) hx hb hts inG_X12 hown hK hP 0 rfl rfl 3 (by decide) (hts _ fl_X12_13) (fun _ h9 => h9) rfl dX12_isWall_1 ?_
  refine lv_bipush (v := 10) hx hb dX12_isWall_4 (by decide) ?_
  refine lv_iload_n hx hb dX12_isWall_6 rfl (lv_at hl 1 rfl) ?_
  refine lv_iadd hx hb dX12_isWall_7 ?_
  have t_1 : (10 + n0).toInt = 10 + n0.toInt := g5_iadd (a := 10) (b := n0.toInt) (by decide) (by rfl) (by omega) (by omega)
  refine va_iald hx hb hK hP 1 0 rfl rfl (i := (10 + n0)) (vp_in_iff.mpr ⟨by omega, by omega⟩) dX12_isWall_8 ?_
  refine g5_ti (v := 0) (by have zc := g5_clamp (10 + n0); unfold upd; simp only [show ¬ ((10 + n0).toNatClampNeg = 3) from by omega, show ¬ ((10 + n0).toNatClampNeg = 4) from by omega, show ¬ ((10 + n0).toNatClampNeg = 6) from by omega]; rfl) ?_
  refine lv_iconst (v := 1) hx hb dX12_isWall_9 (by decide) ?_
  refine lv_icmp_ne (tgt := 17) hx hb dX12_isWall_10 (by decide) (fun c_2 => ?_) (fun c_2 => ?_)
  ·
    refine lv_iconst (v := 0) hx hb dX12_isWall_17 (by decide) ?_
    exact W.zret (v := 0) hx hb hr rfl (fun t ht hW => ⟨⟨0, [(a0, .inr (12, [.int 0, .int 0, .ref a1, .ref a2, .ref a3, .ref a4, .int 0, .ref a5, .int 0, .int 0, .int 0, .int 0, .long 0, .int (-1), .int 0, .int 0, .ref a6, .int 0, .ref a7, .ref a8, .int 0, .ref a9, .ref a10, .int 0, .int 0, .ref a11, .ref a12, .int 0, .ref a13, .ref a14, .int 0, .long 0, .long 0, .int n1, .int n2, .int 3, .int 1000000, .int n3, .ref a15, .int 0, .int (-1), .ref a16, .int 0, .ref a17, .ref a18, .ref a19, .int 0, .ref a20, .ref a21, .long 0, .ref a22, .int 0])), (a2, .inl (G.2 0, 5740, .inl (upd (upd (upd (fun _ => 0) 3 (-1)) 4 1000) 6 (-1))))], rfl, ⟨rfl, rfl⟩, by rw [ht]; exact hP, hD⟩, hS.F ht⟩) hS.2.2 dX12_isWall_18
  ·
    exact absurd c_2 (by decide)
set_option maxHeartbeats 4000000 in
set_option maxRecDepth 100000 in
theorem kX12_isFree_4 (l : Launch) (G : g5_G) (a0 a1 a2 a3 a4 a5 a6 a7 a8 a9 a10 a11 a12 a13 a14 a15 a16 a17 a18 a19 a20 a21 a22 : Nat) (sz : Nat) (n0 : Int32) (n1 : Int32) (n2 : Int32) (h_n0 : 0 ≤ n0.toInt ∧ n0.toInt ≤ 62) (h_n1 : 0 ≤ n1.toInt ∧ n1.toInt ≤ 23) (h_n2 : 1 ≤ n2.toInt ∧ n2.toInt ≤ 8) : Met l yX12_isFree (wsG yX12_isFree cX12_isFree 2 (some .boolean)) ({ frames := 0, cells := 0, slots := 0, locals := 0 }) (va_Pc [.ref a0] (g5_P G [(a0, .inr (12, [.int 0, .int 0, .ref a1, .ref a2, .ref a3, .ref a4, .int 0, .ref a5, .int 0, .int 0, .int 0, .int 0, .long 0, .int (-1), .int 0, .int 0, .ref a6, .int 0, .ref a7, .ref a8, .int 0, .ref a9, .ref a10, .int 0, .int 0, .ref a11, .ref a12, .int 0, .ref a13, .ref a14, .int 0, .long 0, .long 0, .int n0, .int n1, .int 3, .int 1000000, .int n2, .ref a15, .int 0, .int (-1), .ref a16, .int 0, .ref a17, .ref a18, .ref a19, .int 0, .ref a20, .ref a21, .long 0, .ref a22, .int 0])), (a2, .inl (G.2 0, 5740, .inl (upd (upd (upd (fun _ => 0) 3 (-1)) 4 1000) 6 (-1))))] sz)) (va_Qi (fun (r : Int32) (u : va_W) => ((r = 1) ∧ (u = [(a0, .inr (12, [.int 0, .int 0, .ref a1, .ref a2, .ref a3, .ref a4, .int 0, .ref a5, .int 0, .int 0, .int 0, .int 0, .long 0, .int (-1), .int 0, .int 0, .ref a6, .int 0, .ref a7, .ref a8, .int 0, .ref a9, .ref a10, .int 0, .int 0, .ref a11, .ref a12, .int 0, .ref a13, .ref a14, .int 0, .long 0, .long 0, .int n0, .int n1, .int 3, .int 1000000, .int n2, .ref a15, .int 0, .int (-1), .ref a16, .int 0, .ref a17, .ref a18, .ref a19, .int 0, .ref a20, .ref a21, .long 0, .ref a22, .int 0])), (a2, .inl (G.2 0, 5740, .inl (upd (upd (upd (fun _ => 0) 3 (-1)) 4 1000) 6 (-1))))]))) (g5_B G (va_A [(a0, .inr (12, [.int 0, .int 0, .ref a1, .ref a2, .ref a3, .ref a4, .int 0, .ref a5, .int 0, .int 0, .int 0, .int 0, .long 0, .int (-1), .int 0, .int 0, .ref a6, .int 0, .ref a7, .ref a8, .int 0, .ref a9, .ref a10, .int 0, .int 0, .ref a11, .ref a12, .int 0, .ref a13, .ref a14, .int 0, .long 0, .long 0, .int n0, .int n1, .int 3, .int 1000000, .int n2, .ref a15, .int 0, .int (-1), .ref a16, .int 0, .ref a17, .ref a18, .ref a19, .int 0, .ref a20, .ref a21, .long 0, .ref a22, .int 0])), (a2, .inl (G.2 0, 5740, .inl (upd (upd (upd (fun _ => 0) 3 (-1)) 4 1000) 6 (-1))))] sz)) (va_A [(a0, .inr (12, [.int 0, .int 0, .ref a1, .ref a2, .ref a3, .ref a4, .int 0, .ref a5, .int 0, .int 0, .int 0, .int 0, .long 0, .int (-1), .int 0, .int 0, .ref a6, .int 0, .ref a7, .ref a8, .int 0, .ref a9, .ref a10, .int 0, .int 0, .ref a11, .ref a12, .int 0, .ref a13, .ref a14, .int 0, .long 0, .long 0, .int n0, .int n1, .int 3, .int 1000000, .int n2, .ref a15, .int 0, .int (-1), .ref a16, .int 0, .ref a17, .ref a18, .ref a19, .int 0, .ref a20, .ref a21, .long 0, .ref a22, .int 0])), (a2, .inl (G.2 0, 5740, .inl (upd (upd (upd (fun _ => 0) 3 (-1)) 4 1000) 6 (-1))))] sz)) 0 0 (va_A [(a0, .inr (12, [.int 0, .int 0, .ref a1, .ref a2, .ref a3, .ref a4, .int 0, .ref a5, .int 0, .int 0, .int 0, .int 0, .long 0, .int (-1), .int 0, .int 0, .ref a6, .int 0, .ref a7, .ref a8, .int 0, .ref a9, .ref a10, .int 0, .int 0, .ref a11, .ref a12, .int 0, .ref a13, .ref a14, .int 0, .long 0, .long 0, .int n0, .int n1, .int 3, .int 1000000, .int n2, .ref a15, .int 0, .int (-1), .ref a16, .int 0, .ref a17, .ref a18, .ref a19, .int 0, .ref a20, .ref a21, .long 0, .ref a22, .int 0])), (a2, .inl (G.2 0, 5740, .inl (upd (upd (upd (fun _ => 0) 3 (-1)) 4 1000) 6 (-1))))] sz) := by
  refine Met.ofW (cc := cX12_isFree) (maxL := 2) (ret := (some .boolean)) (by decide) rfl ?_
  intro p e s m args below meth c s₁ B hml hv
  obtain ⟨rfl, hsz, hP, hK, hD0, hN, hT⟩ := hv
  have hx := B.exec
  have hb := B.bytes
  have hr := B.returns
  have hts : ∀ w ∈ tblG, w.before _ s = true := fun w h => atoms_spec (ws := (wsG yX12_isFree cX12_isFree 2 (some .boolean))) B.pre w (List.mem_cons_of_mem _ h)
  have hown : s.vm.findClass RX12 = some m.cls := findClass_of_methodNamed B.named
  have hlocks := B.notSynchronized
  subst hsz
  have hD := hD0.self (sz := s.heap.size)
  generalize hAe : va_A [(a0, .inr (12, [.int 0, .int 0, .ref a1, .ref a2, .ref a3, .ref a4, .int 0, .ref a5, .int 0, .int 0, .int 0, .int 0, .long 0, .int (-1), .int 0, .int 0, .ref a6, .int 0, .ref a7, .ref a8, .int 0, .ref a9, .ref a10, .int 0, .int 0, .ref a11, .ref a12, .int 0, .ref a13, .ref a14, .int 0, .long 0, .long 0, .int n0, .int n1, .int 3, .int 1000000, .int n2, .ref a15, .int 0, .int (-1), .ref a16, .int 0, .ref a17, .ref a18, .ref a19, .int 0, .ref a20, .ref a21, .long 0, .ref a22, .int 0])), (a2, .inl (G.2 0, 5740, .inl (upd (upd (upd (fun _ => 0) 3 (-1)) 4 1000) 6 (-1))))] s.heap.size = A at hD hT ⊢
  have hA : ∀ q : Nat, s.heap.size ≤ q → A q := fun q h => by rw [← hAe]; exact Or.inr h
  have hS : va_S A s.heap s.heap [] := va_S.rf
  have hP : va_P G.1 vwCl [(a0, .inr (12, [.int 0, .int 0, .ref a1, .ref a2, .ref a3, .ref a4, .int 0, .ref a5, .int 0, .int 0, .int 0, .int 0, .long 0, .int (-1), .int 0, .int 0, .ref a6, .int 0, .ref a7, .ref a8, .int 0, .ref a9, .ref a10, .int 0, .int 0, .ref a11, .ref a12, .int 0, .ref a13, .ref a14, .int 0, .long 0, .long 0, .int n0, .int n1, .int 3, .int 1000000, .int n2, .ref a15, .int 0, .int (-1), .ref a16, .int 0, .ref a17, .ref a18, .ref a19, .int 0, .ref a20, .ref a21, .long 0, .ref a22, .int 0])), (a2, .inl (G.2 0, 5740, .inl (upd (upd (upd (fun _ => 0) 3 (-1)) 4 1000) 6 (-1))))] s.heap := hP
  have hl := lv_entry ([.ref a0]) (n := 2) (Nat.le_of_ble_eq_true rfl)
  rw [lg_entry_eq]
  generalize (lg_sl ([.ref a0]) ++ List.replicate (2 - (lg_sl ([.ref a0])).length) Slot.unset).toArray = ls at hl ⊢
  have hl : lv_has ls 2 [(0, .ref a0)] := hl
  refine lv_iconst (v := 0) hx hb dX12_isFree_0 (by decide) ?_
  refine lv_istore_n (lv' := [(1, .int 0), (0, .ref a0)]) hx hb dX12_isFree_1 rfl hl (by decide) rfl (fun ls hl => ?_)
  refine lv_iload_n hx hb dX12_isFree_2 rfl (lv_at hl 0 rfl) ?_
  refine lv_aload_n hx hb dX12_isFree_3 rfl (lv_at hl 1 rfl) ?_
  refine va_get (D := G.1) (ci := 12) (v := .ref a2) (C := RX12) (T := TX12) (N := 52) hx hb hts inG_X12 hown hK hP 0 rfl rfl 3 (by decide) (hts _ fl_X12_13) (fun _ h9 => h9) rfl dX12_isFree_4 ?_
  refine lv_iconst (v := 1) hx hb dX12_isFree_7 (by decide) ?_
  refine va_iald hx hb hK hP 1 0 rfl rfl (i := 1) (by unfold vp_in; decide) dX12_isFree_8 ?_
  refine g5_ti (v := 0) rfl ?_
  refine lv_icmp_ge (tgt := 53) hx hb dX12_isFree_9 (by decide) (fun c_1 => ?_) (fun c_1 => ?_)
  ·
    refine lv_iconst (v := 1) hx hb dX12_isFree_53 (by decide) ?_
    exact W.zret (v := 1) hx hb hr rfl (fun t ht hW => ⟨⟨1, [(a0, .inr (12, [.int 0, .int 0, .ref a1, .ref a2, .ref a3, .ref a4, .int 0, .ref a5, .int 0, .int 0, .int 0, .int 0, .long 0, .int (-1), .int 0, .int 0, .ref a6, .int 0, .ref a7, .ref a8, .int 0, .ref a9, .ref a10, .int 0, .int 0, .ref a11, .ref a12, .int 0, .ref a13, .ref a14, .int 0, .long 0, .long 0, .int n0, .int n1, .int 3, .int 1000000, .int n2, .ref a15, .int 0, .int (-1), .ref a16, .int 0, .ref a17, .ref a18, .ref a19, .int 0, .ref a20, .ref a21, .long 0, .ref a22, .int 0])), (a2, .inl (G.2 0, 5740, .inl (upd (upd (upd (fun _ => 0) 3 (-1)) 4 1000) 6 (-1))))], rfl, ⟨rfl, rfl⟩, by rw [ht]; exact hP, hD⟩, hS.F ht⟩) hS.2.2 dX12_isFree_54
  ·
    exact absurd c_1 (by decide)
set_option maxHeartbeats 4000000 in
set_option maxRecDepth 100000 in
theorem kX12_passes_4 (l : Launch) (G : g5_G) (a0 a1 a2 a3 a4 a5 a6 a7 a8 a9 a10 a11 a12 a13 a14 a15 a16 a17 a18 a19 a20 a21 a22 : Nat) (sz : Nat) (n0 : Int32) (n1 : Int32) (n2 : Int32) (n3 : Int32) (h_n1 : 0 ≤ n1.toInt ∧ n1.toInt ≤ 62) (h_n2 : 0 ≤ n2.toInt ∧ n2.toInt ≤ 23) (h_n3 : 1 ≤ n3.toInt ∧ n3.toInt ≤ 8) : Met l yX12_passes (wsG yX12_passes cX12_passes 3 (some .boolean)) ({ frames := 0, cells := 0, slots := 0, locals := 0 }) (va_Pc [.ref a0, .int n0] (g5_P G [(a0, .inr (12, [.int 0, .int 0, .ref a1, .ref a2, .ref a3, .ref a4, .int 0, .ref a5, .int 0, .int 0, .int 0, .int 0, .long 0, .int (-1), .int 0, .int 0, .ref a6, .int 0, .ref a7, .ref a8, .int 0, .ref a9, .ref a10, .int 0, .int 0, .ref a11, .ref a12, .int 0, .ref a13, .ref a14, .int 0, .long 0, .long 0, .int n1, .int n2, .int 3, .int 1000000, .int n3, .ref a15, .int 0, .int (-1), .ref a16, .int 0, .ref a17, .ref a18, .ref a19, .int 0, .ref a20, .ref a21, .long 0, .ref a22, .int 0])), (a2, .inl (G.2 0, 5740, .inl (upd (upd (upd (fun _ => 0) 3 (-1)) 4 1000) 6 (-1))))] sz)) (va_Qi (fun (r : Int32) (u : va_W) => ((r = 1) ∧ (u = [(a0, .inr (12, [.int 0, .int 0, .ref a1, .ref a2, .ref a3, .ref a4, .int 0, .ref a5, .int 0, .int 0, .int 0, .int 0, .long 0, .int (-1), .int 0, .int 0, .ref a6, .int 0, .ref a7, .ref a8, .int 0, .ref a9, .ref a10, .int 0, .int 0, .ref a11, .ref a12, .int 0, .ref a13, .ref a14, .int 0, .long 0, .long 0, .int n1, .int n2, .int 3, .int 1000000, .int n3, .ref a15, .int 0, .int (-1), .ref a16, .int 0, .ref a17, .ref a18, .ref a19, .int 0, .ref a20, .ref a21, .long 0, .ref a22, .int 0])), (a2, .inl (G.2 0, 5740, .inl (upd (upd (upd (fun _ => 0) 3 (-1)) 4 1000) 6 (-1))))]))) (g5_B G (va_A [(a0, .inr (12, [.int 0, .int 0, .ref a1, .ref a2, .ref a3, .ref a4, .int 0, .ref a5, .int 0, .int 0, .int 0, .int 0, .long 0, .int (-1), .int 0, .int 0, .ref a6, .int 0, .ref a7, .ref a8, .int 0, .ref a9, .ref a10, .int 0, .int 0, .ref a11, .ref a12, .int 0, .ref a13, .ref a14, .int 0, .long 0, .long 0, .int n1, .int n2, .int 3, .int 1000000, .int n3, .ref a15, .int 0, .int (-1), .ref a16, .int 0, .ref a17, .ref a18, .ref a19, .int 0, .ref a20, .ref a21, .long 0, .ref a22, .int 0])), (a2, .inl (G.2 0, 5740, .inl (upd (upd (upd (fun _ => 0) 3 (-1)) 4 1000) 6 (-1))))] sz)) (va_A [(a0, .inr (12, [.int 0, .int 0, .ref a1, .ref a2, .ref a3, .ref a4, .int 0, .ref a5, .int 0, .int 0, .int 0, .int 0, .long 0, .int (-1), .int 0, .int 0, .ref a6, .int 0, .ref a7, .ref a8, .int 0, .ref a9, .ref a10, .int 0, .int 0, .ref a11, .ref a12, .int 0, .ref a13, .ref a14, .int 0, .long 0, .long 0, .int n1, .int n2, .int 3, .int 1000000, .int n3, .ref a15, .int 0, .int (-1), .ref a16, .int 0, .ref a17, .ref a18, .ref a19, .int 0, .ref a20, .ref a21, .long 0, .ref a22, .int 0])), (a2, .inl (G.2 0, 5740, .inl (upd (upd (upd (fun _ => 0) 3 (-1)) 4 1000) 6 (-1))))] sz)) 0 0 (va_A [(a0, .inr (12, [.int 0, .int 0, .ref a1, .ref a2, .ref a3, .ref a4, .int 0, .ref a5, .int 0, .int 0, .int 0, .int 0, .long 0, .int (-1), .int 0, .int 0, .ref a6, .int 0, .ref a7, .ref a8, .int 0, .ref a9, .ref a10, .int 0, .int 0, .ref a11, .ref a12, .int 0, .ref a13, .ref a14, .int 0, .long 0, .long 0, .int n1, .int n2, .int 3, .int 1000000, .int n3, .ref a15, .int 0, .int (-1), .ref a16, .int 0, .ref a17, .ref a18, .ref a19, .int 0, .ref a20, .ref a21, .long 0, .ref a22, .int 0])), (a2, .inl (G.2 0, 5740, .inl (upd (upd (upd (fun _ => 0) 3 (-1)) 4 1000) 6 (-1))))] sz) := by
  refine Met.ofW (cc := cX12_passes) (maxL := 3) (ret := (some .boolean)) (by decide) rfl ?_
  intro p e s m args below meth c s₁ B hml hv
  obtain ⟨rfl, hsz, hP, hK, hD0, hN, hT⟩ := hv
  have hx := B.exec
  have hb := B.bytes
  have hr := B.returns
  have hts : ∀ w ∈ tblG, w.before _ s = true := fun w h => atoms_spec (ws := (wsG yX12_passes cX12_passes 3 (some .boolean))) B.pre w (List.mem_cons_of_mem _ h)
  have hown : s.vm.findClass RX12 = some m.cls := findClass_of_methodNamed B.named
  have hlocks := B.notSynchronized
  subst hsz
  have hD := hD0.self (sz := s.heap.size)
  generalize hAe : va_A [(a0, .inr (12, [.int 0, .int 0, .ref a1, .ref a2, .ref a3, .ref a4, .int 0, .ref a5, .int 0, .int 0, .int 0, .int 0, .long 0, .int (-1), .int 0, .int 0, .ref a6, .int 0, .ref a7, .ref a8, .int 0, .ref a9, .ref a10, .int 0, .int 0, .ref a11, .ref a12, .int 0, .ref a13, .ref a14, .int 0, .long 0, .long 0, .int n1, .int n2, .int 3, .int 1000000, .int n3, .ref a15, .int 0, .int (-1), .ref a16, .int 0, .ref a17, .ref a18, .ref a19, .int 0, .ref a20, .ref a21, .long 0, .ref a22, .int 0])), (a2, .inl (G.2 0, 5740, .inl (upd (upd (upd (fun _ => 0) 3 (-1)) 4 1000) 6 (-1))))] s.heap.size = A at hD hT ⊢
  have hA : ∀ q : Nat, s.heap.size ≤ q → A q := fun q h => by rw [← hAe]; exact Or.inr h
  have hS : va_S A s.heap s.heap [] := va_S.rf
  have hP : va_P G.1 vwCl [(a0, .inr (12, [.int 0, .int 0, .ref a1, .ref a2, .ref a3, .ref a4, .int 0, .ref a5, .int 0, .int 0, .int 0, .int 0, .long 0, .int (-1), .int 0, .int 0, .ref a6, .int 0, .ref a7, .ref a8, .int 0, .ref a9, .ref a10, .int 0, .int 0, .ref a11, .ref a12, .int 0, .ref a13, .ref a14, .int 0, .long 0, .long 0, .int n1, .int n2, .int 3, .int 1000000, .int n3, .ref a15, .int 0, .int (-1), .ref a16, .int 0, .ref a17, .ref a18, .ref a19, .int 0, .ref a20, .ref a21, .long 0, .ref a22, .int 0])), (a2, .inl (G.2 0, 5740, .inl (upd (upd (upd (fun _ => 0) 3 (-1)) 4 1000) 6 (-1))))] s.heap := hP
  have hl := lv_entry ([.ref a0, .int n0]) (n := 3) (Nat.le_of_ble_eq_true rfl)
  rw [lg_entry_eq]
  generalize (lg_sl ([.ref a0, .int n0]) ++ List.replicate (3 - (lg_sl ([.ref a0, .int n0])).length) Slot.unset).toArray = ls at hl ⊢
  have hl : lv_has ls 3 [(0, .ref a0), (1, .int n0)] := hl
  refine lv_iconst (v := 0) hx hb dX12_passes_0 (by decide) ?_
  refine lv_istore_n (lv' := [(2, .int 0), (0, .ref a0), (1, .int n0)]) hx hb dX12_passes_1 rfl hl (by decide) rfl (fun ls hl => ?_)
  refine lv_iload_n hx hb dX12_passes_2 rfl (lv_at hl 0 rfl) ?_
  refine lv_aload_n hx hb dX12_passes_3 rfl (lv_at hl 1 rfl) ?_
  refine va_get (D := G.1) (ci := 12) (v := .ref a2) (C := RX12) (T := TX12) (N := 52) hx hb hts inG_X12 hown hK hP 0 rfl rfl 3 (by decide) (hts _ fl_X12_13) (fun _ h9 => h9) rfl dX12_passes_4 ?_
  refine lv_iconst (v := 0) hx hb dX12_passes_7 (by decide) ?_
  refine va_iald hx hb hK hP 1 0 rfl rfl (i := 0) (by unfold vp_in; decide) dX12_passes_8 ?_
  refine g5_ti (v := 0) rfl ?_
  refine lv_icmp_ge (tgt := 68) hx hb dX12_passes_9 (by decide) (fun c_1 => ?_) (fun c_1 => ?_)
  ·
    refine lv_iconst (v := 0) hx hb dX12_passes_68 (by decide) ?_
    refine lv_istore_n (lv' := [(2, .int 0), (0, .ref a0), (1, .int n0)]) hx hb dX12_passes_69 rfl hl (by decide) rfl (fun ls hl => ?_)
    refine lv_iload_n hx hb dX12_passes_70 rfl (lv_at hl 0 rfl) ?_
    refine lv_aload_n hx hb dX12_passes_71 rfl (lv_at hl 1 rfl) ?_
    refine va_get (D := G.1) (ci := 12) (v := .ref a2) (C := RX12) (T := TX12) (N := 52) hx hb hts inG_X12 hown hK hP 0 rfl rfl 3 (by decide) (hts _ fl_X12_13) (fun _ h9 => h9) rfl dX12_passes_72 ?_
    refine lv_bipush (v := 7) hx hb dX12_passes_75 (by decide) ?_
    refine va_iald hx hb hK hP 1 0 rfl rfl (i := 7) (by unfold vp_in; decide) dX12_passes_77 ?_
    refine g5_ti (v := 0) rfl ?_
    refine lv_icmp_ge (tgt := 153) hx hb dX12_passes_78 (by decide) (fun c_2 => ?_) (fun c_2 => ?_)
    ·
      refine lv_iconst (v := 1) hx hb dX12_passes_153 (by decide) ?_
      exact W.zret (v := 1) hx hb hr rfl (fun t ht hW => ⟨⟨1, [(a0, .inr (12, [.int 0, .int 0, .ref a1, .ref a2, .ref a3, .ref a4, .int 0, .ref a5, .int 0, .int 0, .int 0, .int 0, .long 0, .int (-1), .int 0, .int 0, .ref a6, .int 0, .ref a7, .ref a8, .int 0, .ref a9, .ref a10, .int 0, .int 0, .ref a11, .ref a12, .int 0, .ref a13, .ref a14, .int 0, .long 0, .long 0, .int n1, .int n2, .int 3, .int 1000000, .int n3, .ref a15, .int 0, .int (-1), .ref a16, .int 0, .ref a17, .ref a18, .ref a19, .int 0, .ref a20, .ref a21, .long 0, .ref a22, .int 0])), (a2, .inl (G.2 0, 5740, .inl (upd (upd (upd (fun _ => 0) 3 (-1)) 4 1000) 6 (-1))))], rfl, ⟨rfl, rfl⟩, by rw [ht]; exact hP, hD⟩, hS.F ht⟩) hS.2.2 dX12_passes_154
    ·
      exact absurd c_2 (by decide)
  ·
    exact absurd c_1 (by decide)
set_option maxHeartbeats 4000000 in
set_option maxRecDepth 100000 in
theorem k_go3 (l : Launch) (G : g5_G) (a_y a_2 a_15 a_1 a_3 a_4 a_5 a_6 a_7 a_8 a_9 a_10 a_11 a_12 a_13 a_14 a_16 a_17 a_18 a_19 a_20 a_21 a_22 : Nat) (sz : Nat) (p_c : Int32) (p_h : Int32) (p_s : Int32) (e_cell : Int32) (e_hour : Int32) (e_way : Int32) (e_bright : Int32) (e_points : Int32) (e_through : Int32) (e_seen : Int32) (f_p : Nat → Int32) (h_p_c : 0 ≤ p_c.toInt ∧ p_c.toInt ≤ 63) (h_p_h : 0 ≤ p_h.toInt ∧ p_h.toInt ≤ 23) : Met l yX12_go (wsG yX12_go cX12_go 7 none) ({ frames := 1, cells := 0, slots := 0, locals := 22 }) (va_Pc [.ref a_y, .int p_c, .int 3, .int p_h, .int p_s] (g5_P G [(a_y, .inr (12, [.int 0, .int 0, .ref a_1, .ref a_2, .ref a_3, .ref a_4, .int 0, .ref a_5, .int 0, .int 0, .int 0, .int 0, .long 0, .int (-1), .int 0, .int 0, .ref a_6, .int 0, .ref a_7, .ref a_8, .int 0, .ref a_9, .ref a_10, .int 0, .int 0, .ref a_11, .ref a_12, .int 0, .ref a_13, .ref a_14, .int 0, .long 0, .long 0, .int e_cell, .int e_hour, .int e_way, .int e_bright, .int e_points, .ref a_15, .int e_through, .int e_seen, .ref a_16, .int 0, .ref a_17, .ref a_18, .ref a_19, .int 0, .ref a_20, .ref a_21, .long 0, .ref a_22, .int 0])), (a_2, .inl (G.2 0, 5740, .inl (upd (upd (upd (fun _ => 0) 3 (-1)) 4 1000) 6 (-1)))), (a_15, .inl (G.2 0, 200, .inl f_p))] sz)) (va_Qv (fun (u : va_W) => (∃ (o_n : Int32) (o_c : Int32) (o_f : Nat → Int32), (o_n.toInt = p_c.toInt % 8) ∧ (0 ≤ o_n.toInt ∧ o_n.toInt ≤ 7) ∧ (0 ≤ o_c.toInt ∧ o_c.toInt ≤ 63) ∧ (∀ j : Nat, (j : Int) < o_n.toInt → (o_f j).toInt = p_h.toInt * 64 + (p_c.toInt - ((j : Int) + 1))) ∧ (u = [(a_y, .inr (12, [.int 0, .int 0, .ref a_1, .ref a_2, .ref a_3, .ref a_4, .int 0, .ref a_5, .int 0, .int 0, .int 0, .int 0, .long 0, .int (-1), .int 0, .int 0, .ref a_6, .int 0, .ref a_7, .ref a_8, .int 0, .ref a_9, .ref a_10, .int 0, .int 0, .ref a_11, .ref a_12, .int 0, .ref a_13, .ref a_14, .int 0, .long 0, .long 0, .int o_c, .int p_h, .int 3, .int 1000000, .int o_n, .ref a_15, .int 0, .int (-1), .ref a_16, .int 0, .ref a_17, .ref a_18, .ref a_19, .int 0, .ref a_20, .ref a_21, .long 0, .ref a_22, .int 0])), (a_2, .inl (G.2 0, 5740, .inl (upd (upd (upd (fun _ => 0) 3 (-1)) 4 1000) 6 (-1)))), (a_15, .inl (G.2 0, 200, .inl o_f))]))) (g5_B G (va_A [(a_y, .inr (12, [.int 0, .int 0, .ref a_1, .ref a_2, .ref a_3, .ref a_4, .int 0, .ref a_5, .int 0, .int 0, .int 0, .int 0, .long 0, .int (-1), .int 0, .int 0, .ref a_6, .int 0, .ref a_7, .ref a_8, .int 0, .ref a_9, .ref a_10, .int 0, .int 0, .ref a_11, .ref a_12, .int 0, .ref a_13, .ref a_14, .int 0, .long 0, .long 0, .int e_cell, .int e_hour, .int e_way, .int e_bright, .int e_points, .ref a_15, .int e_through, .int e_seen, .ref a_16, .int 0, .ref a_17, .ref a_18, .ref a_19, .int 0, .ref a_20, .ref a_21, .long 0, .ref a_22, .int 0])), (a_2, .inl (G.2 0, 5740, .inl (upd (upd (upd (fun _ => 0) 3 (-1)) 4 1000) 6 (-1)))), (a_15, .inl (G.2 0, 200, .inl f_p))] sz)) (va_A [(a_y, .inr (12, [.int 0, .int 0, .ref a_1, .ref a_2, .ref a_3, .ref a_4, .int 0, .ref a_5, .int 0, .int 0, .int 0, .int 0, .long 0, .int (-1), .int 0, .int 0, .ref a_6, .int 0, .ref a_7, .ref a_8, .int 0, .ref a_9, .ref a_10, .int 0, .int 0, .ref a_11, .ref a_12, .int 0, .ref a_13, .ref a_14, .int 0, .long 0, .long 0, .int e_cell, .int e_hour, .int e_way, .int e_bright, .int e_points, .ref a_15, .int e_through, .int e_seen, .ref a_16, .int 0, .ref a_17, .ref a_18, .ref a_19, .int 0, .ref a_20, .ref a_21, .long 0, .ref a_22, .int 0])), (a_2, .inl (G.2 0, 5740, .inl (upd (upd (upd (fun _ => 0) 3 (-1)) 4 1000) 6 (-1)))), (a_15, .inl (G.2 0, 200, .inl f_p))] sz)) 0 0 (va_A [(a_y, .inr (12, [.int 0, .int 0, .ref a_1, .ref a_2, .ref a_3, .ref a_4, .int 0, .ref a_5, .int 0, .int 0, .int 0, .int 0, .long 0, .int (-1), .int 0, .int 0, .ref a_6, .int 0, .ref a_7, .ref a_8, .int 0, .ref a_9, .ref a_10, .int 0, .int 0, .ref a_11, .ref a_12, .int 0, .ref a_13, .ref a_14, .int 0, .long 0, .long 0, .int e_cell, .int e_hour, .int e_way, .int e_bright, .int e_points, .ref a_15, .int e_through, .int e_seen, .ref a_16, .int 0, .ref a_17, .ref a_18, .ref a_19, .int 0, .ref a_20, .ref a_21, .long 0, .ref a_22, .int 0])), (a_2, .inl (G.2 0, 5740, .inl (upd (upd (upd (fun _ => 0) 3 (-1)) 4 1000) 6 (-1)))), (a_15, .inl (G.2 0, 200, .inl f_p))] sz) := by
  refine Met.ofW (cc := cX12_go) (maxL := 7) (ret := none) (by decide) rfl ?_
  intro p e s m args below meth c s₁ B hml hv
  obtain ⟨rfl, hsz, hP, hK, hD0, hN, hT⟩ := hv
  have hx := B.exec
  have hb := B.bytes
  have hr := B.returns
  have hts : ∀ w ∈ tblG, w.before _ s = true := fun w h => atoms_spec (ws := (wsG yX12_go cX12_go 7 none)) B.pre w (List.mem_cons_of_mem _ h)
  have hown : s.vm.findClass RX12 = some m.cls := findClass_of_methodNamed B.named
  have hlocks := B.notSynchronized
  subst hsz
  have hD := hD0.self (sz := s.heap.size)
  generalize hAe : va_A [(a_y, .inr (12, [.int 0, .int 0, .ref a_1, .ref a_2, .ref a_3, .ref a_4, .int 0, .ref a_5, .int 0, .int 0, .int 0, .int 0, .long 0, .int (-1), .int 0, .int 0, .ref a_6, .int 0, .ref a_7, .ref a_8, .int 0, .ref a_9, .ref a_10, .int 0, .int 0, .ref a_11, .ref a_12, .int 0, .ref a_13, .ref a_14, .int 0, .long 0, .long 0, .int e_cell, .int e_hour, .int e_way, .int e_bright, .int e_points, .ref a_15, .int e_through, .int e_seen, .ref a_16, .int 0, .ref a_17, .ref a_18, .ref a_19, .int 0, .ref a_20, .ref a_21, .long 0, .ref a_22, .int 0])), (a_2, .inl (G.2 0, 5740, .inl (upd (upd (upd (fun _ => 0) 3 (-1)) 4 1000) 6 (-1)))), (a_15, .inl (G.2 0, 200, .inl f_p))] s.heap.size = A at hD hT ⊢
  have hA : ∀ q : Nat, s.heap.size ≤ q → A q := fun q h => by rw [← hAe]; exact Or.inr h
  have hS : va_S A s.heap s.heap [] := va_S.rf
  have hP : va_P G.1 vwCl [(a_y, .inr (12, [.int 0, .int 0, .ref a_1, .ref a_2, .ref a_3, .ref a_4, .int 0, .ref a_5, .int 0, .int 0, .int 0, .int 0, .long 0, .int (-1), .int 0, .int 0, .ref a_6, .int 0, .ref a_7, .ref a_8, .int 0, .ref a_9, .ref a_10, .int 0, .int 0, .ref a_11, .ref a_12, .int 0, .ref a_13, .ref a_14, .int 0, .long 0, .long 0, .int e_cell, .int e_hour, .int e_way, .int e_bright, .int e_points, .ref a_15, .int e_through, .int e_seen, .ref a_16, .int 0, .ref a_17, .ref a_18, .ref a_19, .int 0, .ref a_20, .ref a_21, .long 0, .ref a_22, .int 0])), (a_2, .inl (G.2 0, 5740, .inl (upd (upd (upd (fun _ => 0) 3 (-1)) 4 1000) 6 (-1)))), (a_15, .inl (G.2 0, 200, .inl f_p))] s.heap := hP
  have hl := lv_entry ([.ref a_y, .int p_c, .int 3, .int p_h, .int p_s]) (n := 7) (Nat.le_of_ble_eq_true rfl)
  rw [lg_entry_eq]
  generalize (lg_sl ([.ref a_y, .int p_c, .int 3, .int p_h, .int p_s]) ++ List.replicate (7 - (lg_sl ([.ref a_y, .int p_c, .int 3, .int p_h, .int p_s])).length) Slot.unset).toArray = ls at hl ⊢
  have hl : lv_has ls 7 [(0, .ref a_y), (1, .int p_c), (2, .int 3), (3, .int p_h), (4, .int p_s)] := hl
  refine lv_aload_n hx hb dX12_go_0 rfl (lv_at hl 0 rfl) ?_
  refine lv_iload_n hx hb dX12_go_1 rfl (lv_at hl 1 rfl) ?_
  refine va_put (D := G.1) (ci := 12) (v := .int p_c) (ty := .int) (C := RX12) (T := TX12) (N := 52) hx hb hts inG_X12 tyX12 tyX12_ok nmX12 hown hK hP hD hS 0 rfl rfl 33 (by decide) (hts _ fl_X12_349) (fun _ h9 => h9) rfl (by decide +kernel) rfl rfl (Nat.le_of_ble_eq_true rfl) dX12_go_2 (fun H locs hP hD hS => ?_)
  have hP : va_P G.1 vwCl [(a_y, .inr (12, [.int 0, .int 0, .ref a_1, .ref a_2, .ref a_3, .ref a_4, .int 0, .ref a_5, .int 0, .int 0, .int 0, .int 0, .long 0, .int (-1), .int 0, .int 0, .ref a_6, .int 0, .ref a_7, .ref a_8, .int 0, .ref a_9, .ref a_10, .int 0, .int 0, .ref a_11, .ref a_12, .int 0, .ref a_13, .ref a_14, .int 0, .long 0, .long 0, .int p_c, .int e_hour, .int e_way, .int e_bright, .int e_points, .ref a_15, .int e_through, .int e_seen, .ref a_16, .int 0, .ref a_17, .ref a_18, .ref a_19, .int 0, .ref a_20, .ref a_21, .long 0, .ref a_22, .int 0])), (a_2, .inl (G.2 0, 5740, .inl (upd (upd (upd (fun _ => 0) 3 (-1)) 4 1000) 6 (-1)))), (a_15, .inl (G.2 0, 200, .inl f_p))] H := hP
  have hD : va_D A [(a_y, .inr (12, [.int 0, .int 0, .ref a_1, .ref a_2, .ref a_3, .ref a_4, .int 0, .ref a_5, .int 0, .int 0, .int 0, .int 0, .long 0, .int (-1), .int 0, .int 0, .ref a_6, .int 0, .ref a_7, .ref a_8, .int 0, .ref a_9, .ref a_10, .int 0, .int 0, .ref a_11, .ref a_12, .int 0, .ref a_13, .ref a_14, .int 0, .long 0, .long 0, .int p_c, .int e_hour, .int e_way, .int e_bright, .int e_points, .ref a_15, .int e_through, .int e_seen, .ref a_16, .int 0, .ref a_17, .ref a_18, .ref a_19, .int 0, .ref a_20, .ref a_21, .long 0, .ref a_22, .int 0])), (a_2, .inl (G.2 0, 5740, .inl (upd (upd (upd (fun _ => 0) 3 (-1)) 4 1000) 6 (-1)))), (a_15, .inl (G.2 0, 200, .inl f_p))] := hD
  refine lv_aload_n hx hb dX12_go_5 rfl (lv_at hl 0 rfl) ?_
  refine lv_iload_n hx hb dX12_go_6 rfl (lv_at hl 2 rfl) ?_
  refine va_put (D := G.1) (ci := 12) (v := .int 3) (ty := .int) (C := RX12) (T := TX12) (N := 52) hx hb hts inG_X12 tyX12 tyX12_ok nmX12 hown hK hP hD hS 0 rfl rfl 35 (by decide) (hts _ fl_X12_355) (fun _ h9 => h9) rfl (by decide +kernel) rfl rfl (Nat.le_of_ble_eq_true rfl) dX12_go_7 (fun H locs hP hD hS => ?_)
  have hP : va_P G.1 vwCl [(a_y, .inr (12, [.int 0, .int 0, .ref a_1, .ref a_2, .ref a_3, .ref a_4, .int 0, .ref a_5, .int 0, .int 0, .int 0, .int 0, .long 0, .int (-1), .int 0, .int 0, .ref a_6, .int 0, .ref a_7, .ref a_8, .int 0, .ref a_9, .ref a_10, .int 0, .int 0, .ref a_11, .ref a_12, .int 0, .ref a_13, .ref a_14, .int 0, .long 0, .long 0, .int p_c, .int e_hour, .int 3, .int e_bright, .int e_points, .ref a_15, .int e_through, .int e_seen, .ref a_16, .int 0, .ref a_17, .ref a_18, .ref a_19, .int 0, .ref a_20, .ref a_21, .long 0, .ref a_22, .int 0])), (a_2, .inl (G.2 0, 5740, .inl (upd (upd (upd (fun _ => 0) 3 (-1)) 4 1000) 6 (-1)))), (a_15, .inl (G.2 0, 200, .inl f_p))] H := hP
  have hD : va_D A [(a_y, .inr (12, [.int 0, .int 0, .ref a_1, .ref a_2, .ref a_3, .ref a_4, .int 0, .ref a_5, .int 0, .int 0, .int 0, .int 0, .long 0, .int (-1), .int 0, .int 0, .ref a_6, .int 0, .ref a_7, .ref a_8, .int 0, .ref a_9, .ref a_10, .int 0, .int 0, .ref a_11, .ref a_12, .int 0, .ref a_13, .ref a_14, .int 0, .long 0, .long 0, .int p_c, .int e_hour, .int 3, .int e_bright, .int e_points, .ref a_15, .int e_through, .int e_seen, .ref a_16, .int 0, .ref a_17, .ref a_18, .ref a_19, .int 0, .ref a_20, .ref a_21, .long 0, .ref a_22, .int 0])), (a_2, .inl (G.2 0, 5740, .inl (upd (upd (upd (fun _ => 0) 3 (-1)) 4 1000) 6 (-1)))), (a_15, .inl (G.2 0, 200, .inl f_p))] := hD
  refine lv_aload_n hx hb dX12_go_10 rfl (lv_at hl 0 rfl) ?_
  refine lv_iload_n hx hb dX12_go_11 rfl (lv_at hl 3 rfl) ?_
  refine va_put (D := G.1) (ci := 12) (v := .int p_h) (ty := .int) (C := RX12) (T := TX12) (N := 52) hx hb hts inG_X12 tyX12 tyX12_ok nmX12 hown hK hP hD hS 0 rfl rfl 34 (by decide) (hts _ fl_X12_352) (fun _ h9 => h9) rfl (by decide +kernel) rfl rfl (Nat.le_of_ble_eq_true rfl) dX12_go_12 (fun H locs hP hD hS => ?_)
  have hP : va_P G.1 vwCl [(a_y, .inr (12, [.int 0, .int 0, .ref a_1, .ref a_2, .ref a_3, .ref a_4, .int 0, .ref a_5, .int 0, .int 0, .int 0, .int 0, .long 0, .int (-1), .int 0, .int 0, .ref a_6, .int 0, .ref a_7, .ref a_8, .int 0, .ref a_9, .ref a_10, .int 0, .int 0, .ref a_11, .ref a_12, .int 0, .ref a_13, .ref a_14, .int 0, .long 0, .long 0, .int p_c, .int p_h, .int 3, .int e_bright, .int e_points, .ref a_15, .int e_through, .int e_seen, .ref a_16, .int 0, .ref a_17, .ref a_18, .ref a_19, .int 0, .ref a_20, .ref a_21, .long 0, .ref a_22, .int 0])), (a_2, .inl (G.2 0, 5740, .inl (upd (upd (upd (fun _ => 0) 3 (-1)) 4 1000) 6 (-1)))), (a_15, .inl (G.2 0, 200, .inl f_p))] H := hP
  have hD : va_D A [(a_y, .inr (12, [.int 0, .int 0, .ref a_1, .ref a_2, .ref a_3, .ref a_4, .int 0, .ref a_5, .int 0, .int 0, .int 0, .int 0, .long 0, .int (-1), .int 0, .int 0, .ref a_6, .int 0, .ref a_7, .ref a_8, .int 0, .ref a_9, .ref a_10, .int 0, .int 0, .ref a_11, .ref a_12, .int 0, .ref a_13, .ref a_14, .int 0, .long 0, .long 0, .int p_c, .int p_h, .int 3, .int e_bright, .int e_points, .ref a_15, .int e_through, .int e_seen, .ref a_16, .int 0, .ref a_17, .ref a_18, .ref a_19, .int 0, .ref a_20, .ref a_21, .long 0, .ref a_22, .int 0])), (a_2, .inl (G.2 0, 5740, .inl (upd (upd (upd (fun _ => 0) 3 (-1)) 4 1000) 6 (-1)))), (a_15, .inl (G.2 0, 200, .inl f_p))] := hD
  refine lv_aload_n hx hb dX12_go_15 rfl (lv_at hl 0 rfl) ?_
  refine lv_ldcw (v := 1000000) hx hb hown (hts _ ki_X12_367) dX12_go_16 ?_
  refine va_put (D := G.1) (ci := 12) (v := .int 1000000) (ty := .int) (C := RX12) (T := TX12) (N := 52) hx hb hts inG_X12 tyX12 tyX12_ok nmX12 hown hK hP hD hS 0 rfl rfl 36 (by decide) (hts _ fl_X12_361) (fun _ h9 => h9) rfl (by decide +kernel) rfl rfl (Nat.le_of_ble_eq_true rfl) dX12_go_19 (fun H locs hP hD hS => ?_)
  have hP : va_P G.1 vwCl [(a_y, .inr (12, [.int 0, .int 0, .ref a_1, .ref a_2, .ref a_3, .ref a_4, .int 0, .ref a_5, .int 0, .int 0, .int 0, .int 0, .long 0, .int (-1), .int 0, .int 0, .ref a_6, .int 0, .ref a_7, .ref a_8, .int 0, .ref a_9, .ref a_10, .int 0, .int 0, .ref a_11, .ref a_12, .int 0, .ref a_13, .ref a_14, .int 0, .long 0, .long 0, .int p_c, .int p_h, .int 3, .int 1000000, .int e_points, .ref a_15, .int e_through, .int e_seen, .ref a_16, .int 0, .ref a_17, .ref a_18, .ref a_19, .int 0, .ref a_20, .ref a_21, .long 0, .ref a_22, .int 0])), (a_2, .inl (G.2 0, 5740, .inl (upd (upd (upd (fun _ => 0) 3 (-1)) 4 1000) 6 (-1)))), (a_15, .inl (G.2 0, 200, .inl f_p))] H := hP
  have hD : va_D A [(a_y, .inr (12, [.int 0, .int 0, .ref a_1, .ref a_2, .ref a_3, .ref a_4, .int 0, .ref a_5, .int 0, .int 0, .int 0, .int 0, .long 0, .int (-1), .int 0, .int 0, .ref a_6, .int 0, .ref a_7, .ref a_8, .int 0, .ref a_9, .ref a_10, .int 0, .int 0, .ref a_11, .ref a_12, .int 0, .ref a_13, .ref a_14, .int 0, .long 0, .long 0, .int p_c, .int p_h, .int 3, .int 1000000, .int e_points, .ref a_15, .int e_through, .int e_seen, .ref a_16, .int 0, .ref a_17, .ref a_18, .ref a_19, .int 0, .ref a_20, .ref a_21, .long 0, .ref a_22, .int 0])), (a_2, .inl (G.2 0, 5740, .inl (upd (upd (upd (fun _ => 0) 3 (-1)) 4 1000) 6 (-1)))), (a_15, .inl (G.2 0, 200, .inl f_p))] := hD
  refine lv_aload_n hx hb dX12_go_22 rfl (lv_at hl 0 rfl) ?_
  refine lv_iconst (v := 0) hx hb dX12_go_23 (by decide) ?_
  refine va_put (D := G.1) (ci := 12) (v := .int 0) (ty := .int) (C := RX12) (T := TX12) (N := 52) hx hb hts inG_X12 tyX12 tyX12_ok nmX12 hown hK hP hD hS 0 rfl rfl 37 (by decide) (hts _ fl_X12_358) (fun _ h9 => h9) rfl (by decide +kernel) rfl rfl (Nat.le_of_ble_eq_true rfl) dX12_go_24 (fun H locs hP hD hS => ?_)
  have hP : va_P G.1 vwCl [(a_y, .inr (12, [.int 0, .int 0, .ref a_1, .ref a_2, .ref a_3, .ref a_4, .int 0, .ref a_5, .int 0, .int 0, .int 0, .int 0, .long 0, .int (-1), .int 0, .int 0, .ref a_6, .int 0, .ref a_7, .ref a_8, .int 0, .ref a_9, .ref a_10, .int 0, .int 0, .ref a_11, .ref a_12, .int 0, .ref a_13, .ref a_14, .int 0, .long 0, .long 0, .int p_c, .int p_h, .int 3, .int 1000000, .int 0, .ref a_15, .int e_through, .int e_seen, .ref a_16, .int 0, .ref a_17, .ref a_18, .ref a_19, .int 0, .ref a_20, .ref a_21, .long 0, .ref a_22, .int 0])), (a_2, .inl (G.2 0, 5740, .inl (upd (upd (upd (fun _ => 0) 3 (-1)) 4 1000) 6 (-1)))), (a_15, .inl (G.2 0, 200, .inl f_p))] H := hP
  have hD : va_D A [(a_y, .inr (12, [.int 0, .int 0, .ref a_1, .ref a_2, .ref a_3, .ref a_4, .int 0, .ref a_5, .int 0, .int 0, .int 0, .int 0, .long 0, .int (-1), .int 0, .int 0, .ref a_6, .int 0, .ref a_7, .ref a_8, .int 0, .ref a_9, .ref a_10, .int 0, .int 0, .ref a_11, .ref a_12, .int 0, .ref a_13, .ref a_14, .int 0, .long 0, .long 0, .int p_c, .int p_h, .int 3, .int 1000000, .int 0, .ref a_15, .int e_through, .int e_seen, .ref a_16, .int 0, .ref a_17, .ref a_18, .ref a_19, .int 0, .ref a_20, .ref a_21, .long 0, .ref a_22, .int 0])), (a_2, .inl (G.2 0, 5740, .inl (upd (upd (upd (fun _ => 0) 3 (-1)) 4 1000) 6 (-1)))), (a_15, .inl (G.2 0, 200, .inl f_p))] := hD
  refine lv_aload_n hx hb dX12_go_27 rfl (lv_at hl 0 rfl) ?_
  refine lv_iconst (v := 0) hx hb dX12_go_28 (by decide) ?_
  refine va_put (D := G.1) (ci := 12) (v := .int 0) (ty := .int) (C := RX12) (T := TX12) (N := 52) hx hb hts inG_X12 tyX12 tyX12_ok nmX12 hown hK hP hD hS 0 rfl rfl 39 (by decide) (hts _ fl_X12_368) (fun _ h9 => h9) rfl (by decide +kernel) rfl rfl (Nat.le_of_ble_eq_true rfl) dX12_go_29 (fun H locs hP hD hS => ?_)
  have hP : va_P G.1 vwCl [(a_y, .inr (12, [.int 0, .int 0, .ref a_1, .ref a_2, .ref a_3, .ref a_4, .int 0, .ref a_5, .int 0, .int 0, .int 0, .int 0, .long 0, .int (-1), .int 0, .int 0, .ref a_6, .int 0, .ref a_7, .ref a_8, .int 0, .ref a_9, .ref a_10, .int 0, .int 0, .ref a_11, .ref a_12, .int 0, .ref a_13, .ref a_14, .int 0, .long 0, .long 0, .int p_c, .int p_h, .int 3, .int 1000000, .int 0, .ref a_15, .int 0, .int e_seen, .ref a_16, .int 0, .ref a_17, .ref a_18, .ref a_19, .int 0, .ref a_20, .ref a_21, .long 0, .ref a_22, .int 0])), (a_2, .inl (G.2 0, 5740, .inl (upd (upd (upd (fun _ => 0) 3 (-1)) 4 1000) 6 (-1)))), (a_15, .inl (G.2 0, 200, .inl f_p))] H := hP
  have hD : va_D A [(a_y, .inr (12, [.int 0, .int 0, .ref a_1, .ref a_2, .ref a_3, .ref a_4, .int 0, .ref a_5, .int 0, .int 0, .int 0, .int 0, .long 0, .int (-1), .int 0, .int 0, .ref a_6, .int 0, .ref a_7, .ref a_8, .int 0, .ref a_9, .ref a_10, .int 0, .int 0, .ref a_11, .ref a_12, .int 0, .ref a_13, .ref a_14, .int 0, .long 0, .long 0, .int p_c, .int p_h, .int 3, .int 1000000, .int 0, .ref a_15, .int 0, .int e_seen, .ref a_16, .int 0, .ref a_17, .ref a_18, .ref a_19, .int 0, .ref a_20, .ref a_21, .long 0, .ref a_22, .int 0])), (a_2, .inl (G.2 0, 5740, .inl (upd (upd (upd (fun _ => 0) 3 (-1)) 4 1000) 6 (-1)))), (a_15, .inl (G.2 0, 200, .inl f_p))] := hD
  refine lv_aload_n hx hb dX12_go_32 rfl (lv_at hl 0 rfl) ?_
  refine lv_iconst (v := (-1)) hx hb dX12_go_33 (by decide) ?_
  refine va_put (D := G.1) (ci := 12) (v := .int (-1)) (ty := .int) (C := RX12) (T := TX12) (N := 52) hx hb hts inG_X12 tyX12 tyX12_ok nmX12 hown hK hP hD hS 0 rfl rfl 40 (by decide) (hts _ fl_X12_371) (fun _ h9 => h9) rfl (by decide +kernel) rfl rfl (Nat.le_of_ble_eq_true rfl) dX12_go_34 (fun H locs hP hD hS => ?_)
  have hP : va_P G.1 vwCl [(a_y, .inr (12, [.int 0, .int 0, .ref a_1, .ref a_2, .ref a_3, .ref a_4, .int 0, .ref a_5, .int 0, .int 0, .int 0, .int 0, .long 0, .int (-1), .int 0, .int 0, .ref a_6, .int 0, .ref a_7, .ref a_8, .int 0, .ref a_9, .ref a_10, .int 0, .int 0, .ref a_11, .ref a_12, .int 0, .ref a_13, .ref a_14, .int 0, .long 0, .long 0, .int p_c, .int p_h, .int 3, .int 1000000, .int 0, .ref a_15, .int 0, .int (-1), .ref a_16, .int 0, .ref a_17, .ref a_18, .ref a_19, .int 0, .ref a_20, .ref a_21, .long 0, .ref a_22, .int 0])), (a_2, .inl (G.2 0, 5740, .inl (upd (upd (upd (fun _ => 0) 3 (-1)) 4 1000) 6 (-1)))), (a_15, .inl (G.2 0, 200, .inl f_p))] H := hP
  have hD : va_D A [(a_y, .inr (12, [.int 0, .int 0, .ref a_1, .ref a_2, .ref a_3, .ref a_4, .int 0, .ref a_5, .int 0, .int 0, .int 0, .int 0, .long 0, .int (-1), .int 0, .int 0, .ref a_6, .int 0, .ref a_7, .ref a_8, .int 0, .ref a_9, .ref a_10, .int 0, .int 0, .ref a_11, .ref a_12, .int 0, .ref a_13, .ref a_14, .int 0, .long 0, .long 0, .int p_c, .int p_h, .int 3, .int 1000000, .int 0, .ref a_15, .int 0, .int (-1), .ref a_16, .int 0, .ref a_17, .ref a_18, .ref a_19, .int 0, .ref a_20, .ref a_21, .long 0, .ref a_22, .int 0])), (a_2, .inl (G.2 0, 5740, .inl (upd (upd (upd (fun _ => 0) 3 (-1)) 4 1000) 6 (-1)))), (a_15, .inl (G.2 0, 200, .inl f_p))] := hD
  refine lv_iconst (v := 1) hx hb dX12_go_37 (by decide) ?_
  refine lv_istore (lv' := [(5, .int 1), (0, .ref a_y), (1, .int p_c), (2, .int 3), (3, .int p_h), (4, .int p_s)]) hx hb dX12_go_38 hl (by decide) rfl (fun ls hl => ?_)
  refine g5_loop (α := (Int32) × (Int32) × (Int32) × (Nat → Int32)) (fun (q : (Int32) × (Int32) × (Int32) × (Nat → Int32)) (ls : Array Slot) (H : Heap) (locs : List Loc) => match q with | (k_m, k_n, k_c, k_f) => lv_has ls 7 [(5, .int k_m), (0, .ref a_y), (1, .int p_c), (2, .int 3), (3, .int p_h), (4, .int p_s)] ∧ va_P G.1 vwCl [(a_y, .inr (12, [.int 0, .int 0, .ref a_1, .ref a_2, .ref a_3, .ref a_4, .int 0, .ref a_5, .int 0, .int 0, .int 0, .int 0, .long 0, .int (-1), .int 0, .int 0, .ref a_6, .int 0, .ref a_7, .ref a_8, .int 0, .ref a_9, .ref a_10, .int 0, .int 0, .ref a_11, .ref a_12, .int 0, .ref a_13, .ref a_14, .int 0, .long 0, .long 0, .int k_c, .int p_h, .int 3, .int 1000000, .int k_n, .ref a_15, .int 0, .int (-1), .ref a_16, .int 0, .ref a_17, .ref a_18, .ref a_19, .int 0, .ref a_20, .ref a_21, .long 0, .ref a_22, .int 0])), (a_2, .inl (G.2 0, 5740, .inl (upd (upd (upd (fun _ => 0) 3 (-1)) 4 1000) 6 (-1)))), (a_15, .inl (G.2 0, 200, .inl k_f))] H ∧ va_D A [(a_y, .inr (12, [.int 0, .int 0, .ref a_1, .ref a_2, .ref a_3, .ref a_4, .int 0, .ref a_5, .int 0, .int 0, .int 0, .int 0, .long 0, .int (-1), .int 0, .int 0, .ref a_6, .int 0, .ref a_7, .ref a_8, .int 0, .ref a_9, .ref a_10, .int 0, .int 0, .ref a_11, .ref a_12, .int 0, .ref a_13, .ref a_14, .int 0, .long 0, .long 0, .int k_c, .int p_h, .int 3, .int 1000000, .int k_n, .ref a_15, .int 0, .int (-1), .ref a_16, .int 0, .ref a_17, .ref a_18, .ref a_19, .int 0, .ref a_20, .ref a_21, .long 0, .ref a_22, .int 0])), (a_2, .inl (G.2 0, 5740, .inl (upd (upd (upd (fun _ => 0) 3 (-1)) 4 1000) 6 (-1)))), (a_15, .inl (G.2 0, 200, .inl k_f))] ∧ va_S A s.heap H locs ∧ (0 ≤ k_m.toInt ∧ k_m.toInt ≤ 1) ∧ (0 ≤ k_n.toInt ∧ k_n.toInt ≤ 7) ∧ (0 ≤ k_c.toInt ∧ k_c.toInt ≤ 63) ∧ (k_n.toInt ≤ p_c.toInt % 8) ∧ (k_c.toInt = p_c.toInt - k_n.toInt) ∧ (k_m.toInt = 0 → k_n.toInt = p_c.toInt % 8) ∧ (∀ j : Nat, (j : Int) < k_n.toInt → (k_f j).toInt = p_h.toInt * 64 + (p_c.toInt - ((j : Int) + 1)))) (fun (q : (Int32) × (Int32) × (Int32) × (Nat → Int32)) => match q with | (k_m, k_n, k_c, k_f) => Int.toNat (2 * (8 - k_n.toInt) + k_m.toInt)) (1, 0, p_c, f_p) ⟨lv_sub hl [0, 1, 2, 3, 4, 5] rfl, hP, hD, hS, ⟨by decide, by decide⟩, ⟨by decide, by decide⟩, ⟨by omega, by omega⟩, by have z0 : (0 : Int32).toInt = 0 := (by decide); omega, by have z0 : (0 : Int32).toInt = 0 := (by decide); omega, fun h => absurd h (by decide), fun j h => absurd h (by have z : (0 : Int32).toInt = 0 := (by decide); omega)⟩ ?_
  rintro ⟨k_m, k_n, k_c, k_f⟩ ls H locs ⟨hl, hP, hD, hS, i_1, i_2, i_3, i_4, i_5, i_6, i_7⟩ ih_40_8
  have hl : lv_has ls 7 [(5, .int k_m), (0, .ref a_y), (1, .int p_c), (2, .int 3), (3, .int p_h), (4, .int p_s)] := hl
  have i_1 : 0 ≤ k_m.toInt ∧ k_m.toInt ≤ 1 := i_1
  have i_2 : 0 ≤ k_n.toInt ∧ k_n.toInt ≤ 7 := i_2
  have i_3 : 0 ≤ k_c.toInt ∧ k_c.toInt ≤ 63 := i_3
  have i_4 : k_n.toInt ≤ p_c.toInt % 8 := i_4
  have i_5 : k_c.toInt = p_c.toInt - k_n.toInt := i_5
  have i_6 : k_m.toInt = 0 → k_n.toInt = p_c.toInt % 8 := i_6
  have i_7 : ∀ j : Nat, (j : Int) < k_n.toInt → (k_f j).toInt = p_h.toInt * 64 + (p_c.toInt - ((j : Int) + 1)) := i_7
  have hP : va_P G.1 vwCl [(a_y, .inr (12, [.int 0, .int 0, .ref a_1, .ref a_2, .ref a_3, .ref a_4, .int 0, .ref a_5, .int 0, .int 0, .int 0, .int 0, .long 0, .int (-1), .int 0, .int 0, .ref a_6, .int 0, .ref a_7, .ref a_8, .int 0, .ref a_9, .ref a_10, .int 0, .int 0, .ref a_11, .ref a_12, .int 0, .ref a_13, .ref a_14, .int 0, .long 0, .long 0, .int k_c, .int p_h, .int 3, .int 1000000, .int k_n, .ref a_15, .int 0, .int (-1), .ref a_16, .int 0, .ref a_17, .ref a_18, .ref a_19, .int 0, .ref a_20, .ref a_21, .long 0, .ref a_22, .int 0])), (a_2, .inl (G.2 0, 5740, .inl (upd (upd (upd (fun _ => 0) 3 (-1)) 4 1000) 6 (-1)))), (a_15, .inl (G.2 0, 200, .inl k_f))] H := hP
  have hD : va_D A [(a_y, .inr (12, [.int 0, .int 0, .ref a_1, .ref a_2, .ref a_3, .ref a_4, .int 0, .ref a_5, .int 0, .int 0, .int 0, .int 0, .long 0, .int (-1), .int 0, .int 0, .ref a_6, .int 0, .ref a_7, .ref a_8, .int 0, .ref a_9, .ref a_10, .int 0, .int 0, .ref a_11, .ref a_12, .int 0, .ref a_13, .ref a_14, .int 0, .long 0, .long 0, .int k_c, .int p_h, .int 3, .int 1000000, .int k_n, .ref a_15, .int 0, .int (-1), .ref a_16, .int 0, .ref a_17, .ref a_18, .ref a_19, .int 0, .ref a_20, .ref a_21, .long 0, .ref a_22, .int 0])), (a_2, .inl (G.2 0, 5740, .inl (upd (upd (upd (fun _ => 0) 3 (-1)) 4 1000) 6 (-1)))), (a_15, .inl (G.2 0, 200, .inl k_f))] := hD
  refine lv_iload hx hb dX12_go_40 (lv_at hl 0 rfl) ?_
  refine lv_if_eq (tgt := 167) hx hb dX12_go_42 (by decide) (fun c_9 => ?_) (fun c_9 => ?_)
  ·
    have i_9 : k_m.toInt = 0 := by have z := g5_eq (a := k_m.toInt) (b := 0) (by rfl) (by decide) c_9; omega
    exact W.vret hx hb hr (fun t ht hW => ⟨⟨[(a_y, .inr (12, [.int 0, .int 0, .ref a_1, .ref a_2, .ref a_3, .ref a_4, .int 0, .ref a_5, .int 0, .int 0, .int 0, .int 0, .long 0, .int (-1), .int 0, .int 0, .ref a_6, .int 0, .ref a_7, .ref a_8, .int 0, .ref a_9, .ref a_10, .int 0, .int 0, .ref a_11, .ref a_12, .int 0, .ref a_13, .ref a_14, .int 0, .long 0, .long 0, .int k_c, .int p_h, .int 3, .int 1000000, .int k_n, .ref a_15, .int 0, .int (-1), .ref a_16, .int 0, .ref a_17, .ref a_18, .ref a_19, .int 0, .ref a_20, .ref a_21, .long 0, .ref a_22, .int 0])), (a_2, .inl (G.2 0, 5740, .inl (upd (upd (upd (fun _ => 0) 3 (-1)) 4 1000) 6 (-1)))), (a_15, .inl (G.2 0, 200, .inl k_f))], rfl, ⟨k_n, k_c, k_f, i_6 (by omega), ⟨by omega, by omega⟩, ⟨by omega, by omega⟩, i_7, rfl⟩, by rw [ht]; exact hP.sub [0, 1, 2] rfl, hD.sub [0, 1, 2] (by decide) rfl⟩, hS.F ht⟩) hS.2.2 dX12_go_167
  ·
    have i_9 : k_m.toInt ≠ 0 := by have z := g5_eqN (a := k_m.toInt) (b := 0) (by rfl) (by decide) c_9; omega
    refine lv_aload_n hx hb dX12_go_45 rfl (lv_at hl 1 rfl) ?_
    refine va_get (D := G.1) (ci := 12) (v := .int k_n) (C := RX12) (T := TX12) (N := 52) hx hb hts inG_X12 hown hK hP 0 rfl rfl 37 (by decide) (hts _ fl_X12_358) (fun _ h9 => h9) rfl dX12_go_46 ?_
    refine lv_sipush (v := 200) hx hb dX12_go_49 (by decide) ?_
    refine lv_icmp_ge (tgt := 167) hx hb dX12_go_52 (by decide) (fun c_10 => ?_) (fun c_10 => ?_)
    ·
      have i_10 : k_n.toInt ≥ 200 := by have z := g5_ge (a := k_n.toInt) (b := 200) (by rfl) (by decide) c_10; omega
      omega
    ·
      have i_10 : k_n.toInt < 200 := by have z := g5_geN (a := k_n.toInt) (b := 200) (by rfl) (by decide) c_10; omega
      refine lv_aload_n hx hb dX12_go_55 rfl (lv_at hl 1 rfl) ?_
      refine va_get (D := G.1) (ci := 12) (v := .int k_c) (C := RX12) (T := TX12) (N := 52) hx hb hts inG_X12 hown hK hP 0 rfl rfl 33 (by decide) (hts _ fl_X12_349) (fun _ h9 => h9) rfl dX12_go_56 ?_
      refine lv_aload_n hx hb dX12_go_59 rfl (lv_at hl 1 rfl) ?_
      refine va_get (D := G.1) (ci := 12) (v := .int 3) (C := RX12) (T := TX12) (N := 52) hx hb hts inG_X12 hown hK hP 0 rfl rfl 35 (by decide) (hts _ fl_X12_355) (fun _ h9 => h9) rfl dX12_go_60 ?_
      have hPc := hP.sub (ws' := []) [] rfl
      have hDc := hD.sub (ws' := []) [] (by decide) rfl
      have hFc := va_free (wc := []) hD hS hA [] rfl
      refine va_calli (va_runS (As := [.int k_c, .int 3]) (rest := []) ⟨hx, hb, hml, hown, hts⟩ (kX12_beside_4 l G H.size k_c ⟨by omega, by omega⟩) (va_cwS 2 hts gS_X12_374 rfl rfl rfl hs_X12_beside ⟨Nat.le_of_ble_eq_true rfl, Nat.le_of_ble_eq_true rfl⟩) (g5_preS hPc hK hDc hN hT hS hFc) rfl rfl hl.1 rfl (lv_room (Nat.le_of_ble_eq_true rfl)) dX12_go_63 ⟨Nat.le_of_ble_eq_true rfl, Nat.le_of_ble_eq_true rfl⟩) hS (fun q _ h => hFc q h) hFc (fun r u t H1 locs ht hvm hw hB hz1 hk1 hS => ?_)
      obtain ⟨hP1, hD1⟩ := hB
      rw [ht] at hP1
      rcases hw with ⟨i_11, rfl, rfl⟩ | ⟨i_12, i_13, rfl, rfl⟩
      ·
        have hP := g5_same hP hk1
        generalize H1 = H at hP hS ⊢
        refine lv_istore (lv' := [(6, .int (-1)), (5, .int k_m), (0, .ref a_y), (1, .int p_c), (2, .int 3), (3, .int p_h), (4, .int p_s)]) hx hb dX12_go_66 hl (by decide) rfl (fun ls hl => ?_)
        refine lv_iload hx hb dX12_go_68 (lv_at hl 0 rfl) ?_
        refine lv_iconst (v := (-1)) hx hb dX12_go_70 (by decide) ?_
        refine lv_icmp_eq (tgt := 96) hx hb dX12_go_71 (by decide) (fun c_14 => ?_) (fun c_14 => ?_)
        ·
          refine lv_iconst (v := 0) hx hb dX12_go_96 (by decide) ?_
          refine lv_istore (lv' := [(5, .int 0), (6, .int (-1)), (0, .ref a_y), (1, .int p_c), (2, .int 3), (3, .int p_h), (4, .int p_s)]) hx hb dX12_go_97 hl (by decide) rfl (fun ls hl => ?_)
          refine lv_iload hx hb dX12_go_99 (lv_at hl 0 rfl) ?_
          refine lv_if_eq (tgt := 164) hx hb dX12_go_101 (by decide) (fun c_15 => ?_) (fun c_15 => ?_)
          ·
            refine lv_goto (tgt := 40) hx hb dX12_go_164 (by decide) ?_
            exact ih_40_8 (0, k_n, k_c, k_f) ls H locs (show Int.toNat (2 * (8 - k_n.toInt) + (0 : Int32).toInt) < Int.toNat (2 * (8 - k_n.toInt) + k_m.toInt) by have zc_k_m : (0 : Int32).toInt = 0 := (by decide); omega) ⟨lv_sub hl [0, 2, 3, 4, 5, 6] rfl, hP, hD, hS, ⟨by decide, by decide⟩, ⟨by omega, by omega⟩, ⟨by omega, by omega⟩, by omega, by omega, fun _ => by omega, i_7⟩
          ·
            exact absurd c_15 (by decide)
        ·
          exact absurd c_14 (by decide)
      ·
        have hP := g5_same hP hk1
        generalize H1 = H at hP hS ⊢
        refine lv_istore (lv' := [(6, .int (k_c - 1)), (5, .int k_m), (0, .ref a_y), (1, .int p_c), (2, .int 3), (3, .int p_h), (4, .int p_s)]) hx hb dX12_go_66 hl (by decide) rfl (fun ls hl => ?_)
        refine lv_iload hx hb dX12_go_68 (lv_at hl 0 rfl) ?_
        refine lv_iconst (v := (-1)) hx hb dX12_go_70 (by decide) ?_
        refine lv_icmp_eq (tgt := 96) hx hb dX12_go_71 (by decide) (fun c_16 => ?_) (fun c_16 => ?_)
        ·
          have i_16 : (k_c - 1).toInt = (-1) := by have z := g5_eq (a := (k_c - 1).toInt) (b := (-1)) (by rfl) (by decide) c_16; omega
          refine lv_iconst (v := 0) hx hb dX12_go_96 (by decide) ?_
          refine lv_istore (lv' := [(5, .int 0), (6, .int (k_c - 1)), (0, .ref a_y), (1, .int p_c), (2, .int 3), (3, .int p_h), (4, .int p_s)]) hx hb dX12_go_97 hl (by decide) rfl (fun ls hl => ?_)
          refine lv_iload hx hb dX12_go_99 (lv_at hl 0 rfl) ?_
          refine lv_if_eq (tgt := 164) hx hb dX12_go_101 (by decide) (fun c_17 => ?_) (fun c_17 => ?_)
          ·
            refine lv_goto (tgt := 40) hx hb dX12_go_164 (by decide) ?_
            exact ih_40_8 (0, k_n, k_c, k_f) ls H locs (show Int.toNat (2 * (8 - k_n.toInt) + (0 : Int32).toInt) < Int.toNat (2 * (8 - k_n.toInt) + k_m.toInt) by have zc_k_m : (0 : Int32).toInt = 0 := (by decide); omega) ⟨lv_sub hl [0, 2, 3, 4, 5, 6] rfl, hP, hD, hS, ⟨by decide, by decide⟩, ⟨by omega, by omega⟩, ⟨by omega, by omega⟩, by omega, by omega, fun _ => by omega, i_7⟩
          ·
            exact absurd c_17 (by decide)
        ·
          have i_16 : (k_c - 1).toInt ≠ (-1) := by have z := g5_eqN (a := (k_c - 1).toInt) (b := (-1)) (by rfl) (by decide) c_16; omega
          refine lv_aload_n hx hb dX12_go_74 rfl (lv_at hl 2 rfl) ?_
          refine lv_iload hx hb dX12_go_75 (lv_at hl 0 rfl) ?_
          refine lv_if_ge (tgt := 84) hx hb dX12_go_77 (by decide) (fun c_18 => ?_) (fun c_18 => ?_)
          ·
            have i_18 : (k_c - 1).toInt ≥ 0 := by have z := g5_ge (a := (k_c - 1).toInt) (b := 0) (by rfl) (by decide) c_18; omega
            refine lv_iload hx hb dX12_go_84 (lv_at hl 0 rfl) ?_
            have hPc := hP.sub (ws' := [(a_y, .inr (12, [.int 0, .int 0, .ref a_1, .ref a_2, .ref a_3, .ref a_4, .int 0, .ref a_5, .int 0, .int 0, .int 0, .int 0, .long 0, .int (-1), .int 0, .int 0, .ref a_6, .int 0, .ref a_7, .ref a_8, .int 0, .ref a_9, .ref a_10, .int 0, .int 0, .ref a_11, .ref a_12, .int 0, .ref a_13, .ref a_14, .int 0, .long 0, .long 0, .int k_c, .int p_h, .int 3, .int 1000000, .int k_n, .ref a_15, .int 0, .int (-1), .ref a_16, .int 0, .ref a_17, .ref a_18, .ref a_19, .int 0, .ref a_20, .ref a_21, .long 0, .ref a_22, .int 0])), (a_2, .inl (G.2 0, 5740, .inl (upd (upd (upd (fun _ => 0) 3 (-1)) 4 1000) 6 (-1))))]) [0, 1] rfl
            have hDc := hD.sub (ws' := [(a_y, .inr (12, [.int 0, .int 0, .ref a_1, .ref a_2, .ref a_3, .ref a_4, .int 0, .ref a_5, .int 0, .int 0, .int 0, .int 0, .long 0, .int (-1), .int 0, .int 0, .ref a_6, .int 0, .ref a_7, .ref a_8, .int 0, .ref a_9, .ref a_10, .int 0, .int 0, .ref a_11, .ref a_12, .int 0, .ref a_13, .ref a_14, .int 0, .long 0, .long 0, .int k_c, .int p_h, .int 3, .int 1000000, .int k_n, .ref a_15, .int 0, .int (-1), .ref a_16, .int 0, .ref a_17, .ref a_18, .ref a_19, .int 0, .ref a_20, .ref a_21, .long 0, .ref a_22, .int 0])), (a_2, .inl (G.2 0, 5740, .inl (upd (upd (upd (fun _ => 0) 3 (-1)) 4 1000) 6 (-1))))]) [0, 1] (by decide) rfl
            have hFc := va_free (wc := [(a_y, .inr (12, [.int 0, .int 0, .ref a_1, .ref a_2, .ref a_3, .ref a_4, .int 0, .ref a_5, .int 0, .int 0, .int 0, .int 0, .long 0, .int (-1), .int 0, .int 0, .ref a_6, .int 0, .ref a_7, .ref a_8, .int 0, .ref a_9, .ref a_10, .int 0, .int 0, .ref a_11, .ref a_12, .int 0, .ref a_13, .ref a_14, .int 0, .long 0, .long 0, .int k_c, .int p_h, .int 3, .int 1000000, .int k_n, .ref a_15, .int 0, .int (-1), .ref a_16, .int 0, .ref a_17, .ref a_18, .ref a_19, .int 0, .ref a_20, .ref a_21, .long 0, .ref a_22, .int 0])), (a_2, .inl (G.2 0, 5740, .inl (upd (upd (upd (fun _ => 0) 3 (-1)) 4 1000) 6 (-1))))]) hD hS hA [0, 1] rfl
            refine va_calli (va_runV (As := [.int (k_c - 1)]) (rest := []) ⟨hx, hb, hml, hown, hts⟩ (kX12_isWall_4 l G a_y a_1 a_2 a_3 a_4 a_5 a_6 a_7 a_8 a_9 a_10 a_11 a_12 a_13 a_14 a_15 a_16 a_17 a_18 a_19 a_20 a_21 a_22 H.size (k_c - 1) k_c p_h k_n ⟨by omega, by omega⟩ ⟨by omega, by omega⟩ ⟨by omega, by omega⟩ ⟨by omega, by omega⟩) (cwV 1 hts gV_X12_160 rfl rfl rfl hv_X12_isWall ⟨Nat.le_of_ble_eq_true rfl, Nat.le_of_ble_eq_true rfl⟩) (g5_preV hPc hK hDc hN hT hS hFc (ci := 12) (q0 := 0) rfl rfl) rfl rfl hl.1 rfl (lv_room (Nat.le_of_ble_eq_true rfl)) dX12_go_86 ⟨Nat.le_of_ble_eq_true rfl, Nat.le_of_ble_eq_true rfl⟩) hS (fun q _ h => hFc q h) hFc (fun r u t H1 locs ht hvm hw hB hz1 hk1 hS => ?_)
            obtain ⟨hP1, hD1⟩ := hB
            rw [ht] at hP1
            obtain ⟨rfl, rfl⟩ := hw
            obtain ⟨hP, hD⟩ := va_join (wr := [(a_15, .inl (G.2 0, 200, .inl k_f))]) (w1 := [(a_y, .inr (12, [.int 0, .int 0, .ref a_1, .ref a_2, .ref a_3, .ref a_4, .int 0, .ref a_5, .int 0, .int 0, .int 0, .int 0, .long 0, .int (-1), .int 0, .int 0, .ref a_6, .int 0, .ref a_7, .ref a_8, .int 0, .ref a_9, .ref a_10, .int 0, .int 0, .ref a_11, .ref a_12, .int 0, .ref a_13, .ref a_14, .int 0, .long 0, .long 0, .int k_c, .int p_h, .int 3, .int 1000000, .int k_n, .ref a_15, .int 0, .int (-1), .ref a_16, .int 0, .ref a_17, .ref a_18, .ref a_19, .int 0, .ref a_20, .ref a_21, .long 0, .ref a_22, .int 0])), (a_2, .inl (G.2 0, 5740, .inl (upd (upd (upd (fun _ => 0) 3 (-1)) 4 1000) 6 (-1))))]) hP hD [0, 1] [2] rfl rfl (by decide) (by decide) hk1 hFc hP1 hD1
            generalize H1 = H at hP hS ⊢
            have hP : va_P G.1 vwCl [(a_15, .inl (G.2 0, 200, .inl k_f)), (a_y, .inr (12, [.int 0, .int 0, .ref a_1, .ref a_2, .ref a_3, .ref a_4, .int 0, .ref a_5, .int 0, .int 0, .int 0, .int 0, .long 0, .int (-1), .int 0, .int 0, .ref a_6, .int 0, .ref a_7, .ref a_8, .int 0, .ref a_9, .ref a_10, .int 0, .int 0, .ref a_11, .ref a_12, .int 0, .ref a_13, .ref a_14, .int 0, .long 0, .long 0, .int k_c, .int p_h, .int 3, .int 1000000, .int k_n, .ref a_15, .int 0, .int (-1), .ref a_16, .int 0, .ref a_17, .ref a_18, .ref a_19, .int 0, .ref a_20, .ref a_21, .long 0, .ref a_22, .int 0])), (a_2, .inl (G.2 0, 5740, .inl (upd (upd (upd (fun _ => 0) 3 (-1)) 4 1000) 6 (-1))))] H := hP
            have hD : va_D A [(a_15, .inl (G.2 0, 200, .inl k_f)), (a_y, .inr (12, [.int 0, .int 0, .ref a_1, .ref a_2, .ref a_3, .ref a_4, .int 0, .ref a_5, .int 0, .int 0, .int 0, .int 0, .long 0, .int (-1), .int 0, .int 0, .ref a_6, .int 0, .ref a_7, .ref a_8, .int 0, .ref a_9, .ref a_10, .int 0, .int 0, .ref a_11, .ref a_12, .int 0, .ref a_13, .ref a_14, .int 0, .long 0, .long 0, .int k_c, .int p_h, .int 3, .int 1000000, .int k_n, .ref a_15, .int 0, .int (-1), .ref a_16, .int 0, .ref a_17, .ref a_18, .ref a_19, .int 0, .ref a_20, .ref a_21, .long 0, .ref a_22, .int 0])), (a_2, .inl (G.2 0, 5740, .inl (upd (upd (upd (fun _ => 0) 3 (-1)) 4 1000) 6 (-1))))] := hD
            refine lv_if_ne (tgt := 96) hx hb dX12_go_89 (by decide) (fun c_19 => ?_) (fun c_19 => ?_)
            ·
              exact absurd c_19 (by decide)
            ·
              refine lv_iconst (v := 1) hx hb dX12_go_92 (by decide) ?_
              refine lv_goto (tgt := 97) hx hb dX12_go_93 (by decide) ?_
              refine lv_istore (lv' := [(5, .int 1), (6, .int (k_c - 1)), (0, .ref a_y), (1, .int p_c), (2, .int 3), (3, .int p_h), (4, .int p_s)]) hx hb dX12_go_97 hl (by decide) rfl (fun ls hl => ?_)
              refine lv_iload hx hb dX12_go_99 (lv_at hl 0 rfl) ?_
              refine lv_if_eq (tgt := 164) hx hb dX12_go_101 (by decide) (fun c_20 => ?_) (fun c_20 => ?_)
              ·
                exact absurd c_20 (by decide)
              ·
                refine lv_aload_n hx hb dX12_go_104 rfl (lv_at hl 2 rfl) ?_
                refine lv_iload hx hb dX12_go_105 (lv_at hl 1 rfl) ?_
                refine va_put (D := G.1) (ci := 12) (v := .int (k_c - 1)) (ty := .int) (C := RX12) (T := TX12) (N := 52) hx hb hts inG_X12 tyX12 tyX12_ok nmX12 hown hK hP hD hS 1 rfl rfl 33 (by decide) (hts _ fl_X12_349) (fun _ h9 => h9) rfl (by decide +kernel) rfl rfl (Nat.le_of_ble_eq_true rfl) dX12_go_107 (fun H locs hP hD hS => ?_)
                have hP : va_P G.1 vwCl [(a_15, .inl (G.2 0, 200, .inl k_f)), (a_y, .inr (12, [.int 0, .int 0, .ref a_1, .ref a_2, .ref a_3, .ref a_4, .int 0, .ref a_5, .int 0, .int 0, .int 0, .int 0, .long 0, .int (-1), .int 0, .int 0, .ref a_6, .int 0, .ref a_7, .ref a_8, .int 0, .ref a_9, .ref a_10, .int 0, .int 0, .ref a_11, .ref a_12, .int 0, .ref a_13, .ref a_14, .int 0, .long 0, .long 0, .int (k_c - 1), .int p_h, .int 3, .int 1000000, .int k_n, .ref a_15, .int 0, .int (-1), .ref a_16, .int 0, .ref a_17, .ref a_18, .ref a_19, .int 0, .ref a_20, .ref a_21, .long 0, .ref a_22, .int 0])), (a_2, .inl (G.2 0, 5740, .inl (upd (upd (upd (fun _ => 0) 3 (-1)) 4 1000) 6 (-1))))] H := hP
                have hD : va_D A [(a_15, .inl (G.2 0, 200, .inl k_f)), (a_y, .inr (12, [.int 0, .int 0, .ref a_1, .ref a_2, .ref a_3, .ref a_4, .int 0, .ref a_5, .int 0, .int 0, .int 0, .int 0, .long 0, .int (-1), .int 0, .int 0, .ref a_6, .int 0, .ref a_7, .ref a_8, .int 0, .ref a_9, .ref a_10, .int 0, .int 0, .ref a_11, .ref a_12, .int 0, .ref a_13, .ref a_14, .int 0, .long 0, .long 0, .int (k_c - 1), .int p_h, .int 3, .int 1000000, .int k_n, .ref a_15, .int 0, .int (-1), .ref a_16, .int 0, .ref a_17, .ref a_18, .ref a_19, .int 0, .ref a_20, .ref a_21, .long 0, .ref a_22, .int 0])), (a_2, .inl (G.2 0, 5740, .inl (upd (upd (upd (fun _ => 0) 3 (-1)) 4 1000) 6 (-1))))] := hD
                refine lv_aload_n hx hb dX12_go_110 rfl (lv_at hl 2 rfl) ?_
                refine va_get (D := G.1) (ci := 12) (v := .ref a_15) (C := RX12) (T := TX12) (N := 52) hx hb hts inG_X12 hown hK hP 1 rfl rfl 38 (by decide) (hts _ fl_X12_82) (fun _ h9 => h9) rfl dX12_go_111 ?_
                refine lv_aload_n hx hb dX12_go_114 rfl (lv_at hl 2 rfl) ?_
                refine va_get (D := G.1) (ci := 12) (v := .int k_n) (C := RX12) (T := TX12) (N := 52) hx hb hts inG_X12 hown hK hP 1 rfl rfl 37 (by decide) (hts _ fl_X12_358) (fun _ h9 => h9) rfl dX12_go_115 ?_
                refine lv_bipush (v := 64) hx hb dX12_go_118 (by decide) ?_
                refine lv_aload_n hx hb dX12_go_120 rfl (lv_at hl 2 rfl) ?_
                refine va_get (D := G.1) (ci := 12) (v := .int p_h) (C := RX12) (T := TX12) (N := 52) hx hb hts inG_X12 hown hK hP 1 rfl rfl 34 (by decide) (hts _ fl_X12_352) (fun _ h9 => h9) rfl dX12_go_121 ?_
                refine lv_imul hx hb dX12_go_124 ?_
                have t_21 : (64 * p_h).toInt = 64 * p_h.toInt := g5_imul (a := 64) (b := p_h.toInt) (by decide) (by rfl) (by omega) (by omega)
                refine lv_aload_n hx hb dX12_go_125 rfl (lv_at hl 2 rfl) ?_
                refine va_get (D := G.1) (ci := 12) (v := .int (k_c - 1)) (C := RX12) (T := TX12) (N := 52) hx hb hts inG_X12 hown hK hP 1 rfl rfl 33 (by decide) (hts _ fl_X12_349) (fun _ h9 => h9) rfl dX12_go_126 ?_
                refine lv_iadd hx hb dX12_go_129 ?_
                have t_22 : ((64 * p_h) + (k_c - 1)).toInt = (64 * p_h).toInt + (k_c - 1).toInt := g5_iadd (a := (64 * p_h).toInt) (b := (k_c - 1).toInt) (by rfl) (by rfl) (by omega) (by omega)
                refine va_iast hx hb hK hP hD hS 0 0 rfl rfl (i := k_n) (x := ((64 * p_h) + (k_c - 1))) (vp_in_iff.mpr ⟨by omega, by omega⟩) dX12_go_130 (fun H locs hP hD hS => ?_)
                have hP : va_P G.1 vwCl [(a_15, .inl (G.2 0, 200, .inl (upd k_f k_n.toNatClampNeg ((64 * p_h) + (k_c - 1))))), (a_y, .inr (12, [.int 0, .int 0, .ref a_1, .ref a_2, .ref a_3, .ref a_4, .int 0, .ref a_5, .int 0, .int 0, .int 0, .int 0, .long 0, .int (-1), .int 0, .int 0, .ref a_6, .int 0, .ref a_7, .ref a_8, .int 0, .ref a_9, .ref a_10, .int 0, .int 0, .ref a_11, .ref a_12, .int 0, .ref a_13, .ref a_14, .int 0, .long 0, .long 0, .int (k_c - 1), .int p_h, .int 3, .int 1000000, .int k_n, .ref a_15, .int 0, .int (-1), .ref a_16, .int 0, .ref a_17, .ref a_18, .ref a_19, .int 0, .ref a_20, .ref a_21, .long 0, .ref a_22, .int 0])), (a_2, .inl (G.2 0, 5740, .inl (upd (upd (upd (fun _ => 0) 3 (-1)) 4 1000) 6 (-1))))] H := hP
                have hD : va_D A [(a_15, .inl (G.2 0, 200, .inl (upd k_f k_n.toNatClampNeg ((64 * p_h) + (k_c - 1))))), (a_y, .inr (12, [.int 0, .int 0, .ref a_1, .ref a_2, .ref a_3, .ref a_4, .int 0, .ref a_5, .int 0, .int 0, .int 0, .int 0, .long 0, .int (-1), .int 0, .int 0, .ref a_6, .int 0, .ref a_7, .ref a_8, .int 0, .ref a_9, .ref a_10, .int 0, .int 0, .ref a_11, .ref a_12, .int 0, .ref a_13, .ref a_14, .int 0, .long 0, .long 0, .int (k_c - 1), .int p_h, .int 3, .int 1000000, .int k_n, .ref a_15, .int 0, .int (-1), .ref a_16, .int 0, .ref a_17, .ref a_18, .ref a_19, .int 0, .ref a_20, .ref a_21, .long 0, .ref a_22, .int 0])), (a_2, .inl (G.2 0, 5740, .inl (upd (upd (upd (fun _ => 0) 3 (-1)) 4 1000) 6 (-1))))] := hD
                refine lv_aload_n hx hb dX12_go_131 rfl (lv_at hl 2 rfl) ?_
                refine lv_dup hx hb dX12_go_132 rfl ?_
                refine va_get (D := G.1) (ci := 12) (v := .int k_n) (C := RX12) (T := TX12) (N := 52) hx hb hts inG_X12 hown hK hP 1 rfl rfl 37 (by decide) (hts _ fl_X12_358) (fun _ h9 => h9) rfl dX12_go_133 ?_
                refine lv_iconst (v := 1) hx hb dX12_go_136 (by decide) ?_
                refine lv_iadd hx hb dX12_go_137 ?_
                have t_23 : (k_n + 1).toInt = k_n.toInt + 1 := g5_iadd (a := k_n.toInt) (b := 1) (by rfl) (by decide) (by omega) (by omega)
                refine va_put (D := G.1) (ci := 12) (v := .int (k_n + 1)) (ty := .int) (C := RX12) (T := TX12) (N := 52) hx hb hts inG_X12 tyX12 tyX12_ok nmX12 hown hK hP hD hS 1 rfl rfl 37 (by decide) (hts _ fl_X12_358) (fun _ h9 => h9) rfl (by decide +kernel) rfl rfl (Nat.le_of_ble_eq_true rfl) dX12_go_138 (fun H locs hP hD hS => ?_)
                have hP : va_P G.1 vwCl [(a_15, .inl (G.2 0, 200, .inl (upd k_f k_n.toNatClampNeg ((64 * p_h) + (k_c - 1))))), (a_y, .inr (12, [.int 0, .int 0, .ref a_1, .ref a_2, .ref a_3, .ref a_4, .int 0, .ref a_5, .int 0, .int 0, .int 0, .int 0, .long 0, .int (-1), .int 0, .int 0, .ref a_6, .int 0, .ref a_7, .ref a_8, .int 0, .ref a_9, .ref a_10, .int 0, .int 0, .ref a_11, .ref a_12, .int 0, .ref a_13, .ref a_14, .int 0, .long 0, .long 0, .int (k_c - 1), .int p_h, .int 3, .int 1000000, .int (k_n + 1), .ref a_15, .int 0, .int (-1), .ref a_16, .int 0, .ref a_17, .ref a_18, .ref a_19, .int 0, .ref a_20, .ref a_21, .long 0, .ref a_22, .int 0])), (a_2, .inl (G.2 0, 5740, .inl (upd (upd (upd (fun _ => 0) 3 (-1)) 4 1000) 6 (-1))))] H := hP
                have hD : va_D A [(a_15, .inl (G.2 0, 200, .inl (upd k_f k_n.toNatClampNeg ((64 * p_h) + (k_c - 1))))), (a_y, .inr (12, [.int 0, .int 0, .ref a_1, .ref a_2, .ref a_3, .ref a_4, .int 0, .ref a_5, .int 0, .int 0, .int 0, .int 0, .long 0, .int (-1), .int 0, .int 0, .ref a_6, .int 0, .ref a_7, .ref a_8, .int 0, .ref a_9, .ref a_10, .int 0, .int 0, .ref a_11, .ref a_12, .int 0, .ref a_13, .ref a_14, .int 0, .long 0, .long 0, .int (k_c - 1), .int p_h, .int 3, .int 1000000, .int (k_n + 1), .ref a_15, .int 0, .int (-1), .ref a_16, .int 0, .ref a_17, .ref a_18, .ref a_19, .int 0, .ref a_20, .ref a_21, .long 0, .ref a_22, .int 0])), (a_2, .inl (G.2 0, 5740, .inl (upd (upd (upd (fun _ => 0) 3 (-1)) 4 1000) 6 (-1))))] := hD
                refine lv_aload_n hx hb dX12_go_141 rfl (lv_at hl 2 rfl) ?_
                have hPc := hP.sub (ws' := [(a_y, .inr (12, [.int 0, .int 0, .ref a_1, .ref a_2, .ref a_3, .ref a_4, .int 0, .ref a_5, .int 0, .int 0, .int 0, .int 0, .long 0, .int (-1), .int 0, .int 0, .ref a_6, .int 0, .ref a_7, .ref a_8, .int 0, .ref a_9, .ref a_10, .int 0, .int 0, .ref a_11, .ref a_12, .int 0, .ref a_13, .ref a_14, .int 0, .long 0, .long 0, .int (k_c - 1), .int p_h, .int 3, .int 1000000, .int (k_n + 1), .ref a_15, .int 0, .int (-1), .ref a_16, .int 0, .ref a_17, .ref a_18, .ref a_19, .int 0, .ref a_20, .ref a_21, .long 0, .ref a_22, .int 0])), (a_2, .inl (G.2 0, 5740, .inl (upd (upd (upd (fun _ => 0) 3 (-1)) 4 1000) 6 (-1))))]) [1, 2] rfl
                have hDc := hD.sub (ws' := [(a_y, .inr (12, [.int 0, .int 0, .ref a_1, .ref a_2, .ref a_3, .ref a_4, .int 0, .ref a_5, .int 0, .int 0, .int 0, .int 0, .long 0, .int (-1), .int 0, .int 0, .ref a_6, .int 0, .ref a_7, .ref a_8, .int 0, .ref a_9, .ref a_10, .int 0, .int 0, .ref a_11, .ref a_12, .int 0, .ref a_13, .ref a_14, .int 0, .long 0, .long 0, .int (k_c - 1), .int p_h, .int 3, .int 1000000, .int (k_n + 1), .ref a_15, .int 0, .int (-1), .ref a_16, .int 0, .ref a_17, .ref a_18, .ref a_19, .int 0, .ref a_20, .ref a_21, .long 0, .ref a_22, .int 0])), (a_2, .inl (G.2 0, 5740, .inl (upd (upd (upd (fun _ => 0) 3 (-1)) 4 1000) 6 (-1))))]) [1, 2] (by decide) rfl
                have hFc := va_free (wc := [(a_y, .inr (12, [.int 0, .int 0, .ref a_1, .ref a_2, .ref a_3, .ref a_4, .int 0, .ref a_5, .int 0, .int 0, .int 0, .int 0, .long 0, .int (-1), .int 0, .int 0, .ref a_6, .int 0, .ref a_7, .ref a_8, .int 0, .ref a_9, .ref a_10, .int 0, .int 0, .ref a_11, .ref a_12, .int 0, .ref a_13, .ref a_14, .int 0, .long 0, .long 0, .int (k_c - 1), .int p_h, .int 3, .int 1000000, .int (k_n + 1), .ref a_15, .int 0, .int (-1), .ref a_16, .int 0, .ref a_17, .ref a_18, .ref a_19, .int 0, .ref a_20, .ref a_21, .long 0, .ref a_22, .int 0])), (a_2, .inl (G.2 0, 5740, .inl (upd (upd (upd (fun _ => 0) 3 (-1)) 4 1000) 6 (-1))))]) hD hS hA [1, 2] rfl
                refine va_calli (va_runV (As := []) (rest := []) ⟨hx, hb, hml, hown, hts⟩ (kX12_isFree_4 l G a_y a_1 a_2 a_3 a_4 a_5 a_6 a_7 a_8 a_9 a_10 a_11 a_12 a_13 a_14 a_15 a_16 a_17 a_18 a_19 a_20 a_21 a_22 H.size (k_c - 1) p_h (k_n + 1) ⟨by omega, by omega⟩ ⟨by omega, by omega⟩ ⟨by omega, by omega⟩) (cwV 0 hts gV_X12_377 rfl rfl rfl hv_X12_isFree ⟨Nat.le_of_ble_eq_true rfl, Nat.le_of_ble_eq_true rfl⟩) (g5_preV hPc hK hDc hN hT hS hFc (ci := 12) (q0 := 0) rfl rfl) rfl rfl hl.1 rfl (lv_room (Nat.le_of_ble_eq_true rfl)) dX12_go_142 ⟨Nat.le_of_ble_eq_true rfl, Nat.le_of_ble_eq_true rfl⟩) hS (fun q _ h => hFc q h) hFc (fun r u t H1 locs ht hvm hw hB hz1 hk1 hS => ?_)
                obtain ⟨hP1, hD1⟩ := hB
                rw [ht] at hP1
                obtain ⟨rfl, rfl⟩ := hw
                obtain ⟨hP, hD⟩ := va_join (wr := [(a_15, .inl (G.2 0, 200, .inl (upd k_f k_n.toNatClampNeg ((64 * p_h) + (k_c - 1)))))]) (w1 := [(a_y, .inr (12, [.int 0, .int 0, .ref a_1, .ref a_2, .ref a_3, .ref a_4, .int 0, .ref a_5, .int 0, .int 0, .int 0, .int 0, .long 0, .int (-1), .int 0, .int 0, .ref a_6, .int 0, .ref a_7, .ref a_8, .int 0, .ref a_9, .ref a_10, .int 0, .int 0, .ref a_11, .ref a_12, .int 0, .ref a_13, .ref a_14, .int 0, .long 0, .long 0, .int (k_c - 1), .int p_h, .int 3, .int 1000000, .int (k_n + 1), .ref a_15, .int 0, .int (-1), .ref a_16, .int 0, .ref a_17, .ref a_18, .ref a_19, .int 0, .ref a_20, .ref a_21, .long 0, .ref a_22, .int 0])), (a_2, .inl (G.2 0, 5740, .inl (upd (upd (upd (fun _ => 0) 3 (-1)) 4 1000) 6 (-1))))]) hP hD [1, 2] [0] rfl rfl (by decide) (by decide) hk1 hFc hP1 hD1
                generalize H1 = H at hP hS ⊢
                have hP : va_P G.1 vwCl [(a_15, .inl (G.2 0, 200, .inl (upd k_f k_n.toNatClampNeg ((64 * p_h) + (k_c - 1))))), (a_y, .inr (12, [.int 0, .int 0, .ref a_1, .ref a_2, .ref a_3, .ref a_4, .int 0, .ref a_5, .int 0, .int 0, .int 0, .int 0, .long 0, .int (-1), .int 0, .int 0, .ref a_6, .int 0, .ref a_7, .ref a_8, .int 0, .ref a_9, .ref a_10, .int 0, .int 0, .ref a_11, .ref a_12, .int 0, .ref a_13, .ref a_14, .int 0, .long 0, .long 0, .int (k_c - 1), .int p_h, .int 3, .int 1000000, .int (k_n + 1), .ref a_15, .int 0, .int (-1), .ref a_16, .int 0, .ref a_17, .ref a_18, .ref a_19, .int 0, .ref a_20, .ref a_21, .long 0, .ref a_22, .int 0])), (a_2, .inl (G.2 0, 5740, .inl (upd (upd (upd (fun _ => 0) 3 (-1)) 4 1000) 6 (-1))))] H := hP
                have hD : va_D A [(a_15, .inl (G.2 0, 200, .inl (upd k_f k_n.toNatClampNeg ((64 * p_h) + (k_c - 1))))), (a_y, .inr (12, [.int 0, .int 0, .ref a_1, .ref a_2, .ref a_3, .ref a_4, .int 0, .ref a_5, .int 0, .int 0, .int 0, .int 0, .long 0, .int (-1), .int 0, .int 0, .ref a_6, .int 0, .ref a_7, .ref a_8, .int 0, .ref a_9, .ref a_10, .int 0, .int 0, .ref a_11, .ref a_12, .int 0, .ref a_13, .ref a_14, .int 0, .long 0, .long 0, .int (k_c - 1), .int p_h, .int 3, .int 1000000, .int (k_n + 1), .ref a_15, .int 0, .int (-1), .ref a_16, .int 0, .ref a_17, .ref a_18, .ref a_19, .int 0, .ref a_20, .ref a_21, .long 0, .ref a_22, .int 0])), (a_2, .inl (G.2 0, 5740, .inl (upd (upd (upd (fun _ => 0) 3 (-1)) 4 1000) 6 (-1))))] := hD
                refine lv_if_eq (tgt := 161) hx hb dX12_go_145 (by decide) (fun c_24 => ?_) (fun c_24 => ?_)
                ·
                  exact absurd c_24 (by decide)
                ·
                  refine lv_aload_n hx hb dX12_go_148 rfl (lv_at hl 2 rfl) ?_
                  refine lv_iload hx hb dX12_go_149 (lv_at hl 6 rfl) ?_
                  have hPc := hP.sub (ws' := [(a_y, .inr (12, [.int 0, .int 0, .ref a_1, .ref a_2, .ref a_3, .ref a_4, .int 0, .ref a_5, .int 0, .int 0, .int 0, .int 0, .long 0, .int (-1), .int 0, .int 0, .ref a_6, .int 0, .ref a_7, .ref a_8, .int 0, .ref a_9, .ref a_10, .int 0, .int 0, .ref a_11, .ref a_12, .int 0, .ref a_13, .ref a_14, .int 0, .long 0, .long 0, .int (k_c - 1), .int p_h, .int 3, .int 1000000, .int (k_n + 1), .ref a_15, .int 0, .int (-1), .ref a_16, .int 0, .ref a_17, .ref a_18, .ref a_19, .int 0, .ref a_20, .ref a_21, .long 0, .ref a_22, .int 0])), (a_2, .inl (G.2 0, 5740, .inl (upd (upd (upd (fun _ => 0) 3 (-1)) 4 1000) 6 (-1))))]) [1, 2] rfl
                  have hDc := hD.sub (ws' := [(a_y, .inr (12, [.int 0, .int 0, .ref a_1, .ref a_2, .ref a_3, .ref a_4, .int 0, .ref a_5, .int 0, .int 0, .int 0, .int 0, .long 0, .int (-1), .int 0, .int 0, .ref a_6, .int 0, .ref a_7, .ref a_8, .int 0, .ref a_9, .ref a_10, .int 0, .int 0, .ref a_11, .ref a_12, .int 0, .ref a_13, .ref a_14, .int 0, .long 0, .long 0, .int (k_c - 1), .int p_h, .int 3, .int 1000000, .int (k_n + 1), .ref a_15, .int 0, .int (-1), .ref a_16, .int 0, .ref a_17, .ref a_18, .ref a_19, .int 0, .ref a_20, .ref a_21, .long 0, .ref a_22, .int 0])), (a_2, .inl (G.2 0, 5740, .inl (upd (upd (upd (fun _ => 0) 3 (-1)) 4 1000) 6 (-1))))]) [1, 2] (by decide) rfl
                  have hFc := va_free (wc := [(a_y, .inr (12, [.int 0, .int 0, .ref a_1, .ref a_2, .ref a_3, .ref a_4, .int 0, .ref a_5, .int 0, .int 0, .int 0, .int 0, .long 0, .int (-1), .int 0, .int 0, .ref a_6, .int 0, .ref a_7, .ref a_8, .int 0, .ref a_9, .ref a_10, .int 0, .int 0, .ref a_11, .ref a_12, .int 0, .ref a_13, .ref a_14, .int 0, .long 0, .long 0, .int (k_c - 1), .int p_h, .int 3, .int 1000000, .int (k_n + 1), .ref a_15, .int 0, .int (-1), .ref a_16, .int 0, .ref a_17, .ref a_18, .ref a_19, .int 0, .ref a_20, .ref a_21, .long 0, .ref a_22, .int 0])), (a_2, .inl (G.2 0, 5740, .inl (upd (upd (upd (fun _ => 0) 3 (-1)) 4 1000) 6 (-1))))]) hD hS hA [1, 2] rfl
                  refine va_calli (va_runV (As := [.int p_s]) (rest := []) ⟨hx, hb, hml, hown, hts⟩ (kX12_passes_4 l G a_y a_1 a_2 a_3 a_4 a_5 a_6 a_7 a_8 a_9 a_10 a_11 a_12 a_13 a_14 a_15 a_16 a_17 a_18 a_19 a_20 a_21 a_22 H.size p_s (k_c - 1) p_h (k_n + 1) ⟨by omega, by omega⟩ ⟨by omega, by omega⟩ ⟨by omega, by omega⟩) (cwV 1 hts gV_X12_380 rfl rfl rfl hv_X12_passes ⟨Nat.le_of_ble_eq_true rfl, Nat.le_of_ble_eq_true rfl⟩) (g5_preV hPc hK hDc hN hT hS hFc (ci := 12) (q0 := 0) rfl rfl) rfl rfl hl.1 rfl (lv_room (Nat.le_of_ble_eq_true rfl)) dX12_go_151 ⟨Nat.le_of_ble_eq_true rfl, Nat.le_of_ble_eq_true rfl⟩) hS (fun q _ h => hFc q h) hFc (fun r u t H1 locs ht hvm hw hB hz1 hk1 hS => ?_)
                  obtain ⟨hP1, hD1⟩ := hB
                  rw [ht] at hP1
                  obtain ⟨rfl, rfl⟩ := hw
                  obtain ⟨hP, hD⟩ := va_join (wr := [(a_15, .inl (G.2 0, 200, .inl (upd k_f k_n.toNatClampNeg ((64 * p_h) + (k_c - 1)))))]) (w1 := [(a_y, .inr (12, [.int 0, .int 0, .ref a_1, .ref a_2, .ref a_3, .ref a_4, .int 0, .ref a_5, .int 0, .int 0, .int 0, .int 0, .long 0, .int (-1), .int 0, .int 0, .ref a_6, .int 0, .ref a_7, .ref a_8, .int 0, .ref a_9, .ref a_10, .int 0, .int 0, .ref a_11, .ref a_12, .int 0, .ref a_13, .ref a_14, .int 0, .long 0, .long 0, .int (k_c - 1), .int p_h, .int 3, .int 1000000, .int (k_n + 1), .ref a_15, .int 0, .int (-1), .ref a_16, .int 0, .ref a_17, .ref a_18, .ref a_19, .int 0, .ref a_20, .ref a_21, .long 0, .ref a_22, .int 0])), (a_2, .inl (G.2 0, 5740, .inl (upd (upd (upd (fun _ => 0) 3 (-1)) 4 1000) 6 (-1))))]) hP hD [1, 2] [0] rfl rfl (by decide) (by decide) hk1 hFc hP1 hD1
                  generalize H1 = H at hP hS ⊢
                  have hP : va_P G.1 vwCl [(a_15, .inl (G.2 0, 200, .inl (upd k_f k_n.toNatClampNeg ((64 * p_h) + (k_c - 1))))), (a_y, .inr (12, [.int 0, .int 0, .ref a_1, .ref a_2, .ref a_3, .ref a_4, .int 0, .ref a_5, .int 0, .int 0, .int 0, .int 0, .long 0, .int (-1), .int 0, .int 0, .ref a_6, .int 0, .ref a_7, .ref a_8, .int 0, .ref a_9, .ref a_10, .int 0, .int 0, .ref a_11, .ref a_12, .int 0, .ref a_13, .ref a_14, .int 0, .long 0, .long 0, .int (k_c - 1), .int p_h, .int 3, .int 1000000, .int (k_n + 1), .ref a_15, .int 0, .int (-1), .ref a_16, .int 0, .ref a_17, .ref a_18, .ref a_19, .int 0, .ref a_20, .ref a_21, .long 0, .ref a_22, .int 0])), (a_2, .inl (G.2 0, 5740, .inl (upd (upd (upd (fun _ => 0) 3 (-1)) 4 1000) 6 (-1))))] H := hP
                  have hD : va_D A [(a_15, .inl (G.2 0, 200, .inl (upd k_f k_n.toNatClampNeg ((64 * p_h) + (k_c - 1))))), (a_y, .inr (12, [.int 0, .int 0, .ref a_1, .ref a_2, .ref a_3, .ref a_4, .int 0, .ref a_5, .int 0, .int 0, .int 0, .int 0, .long 0, .int (-1), .int 0, .int 0, .ref a_6, .int 0, .ref a_7, .ref a_8, .int 0, .ref a_9, .ref a_10, .int 0, .int 0, .ref a_11, .ref a_12, .int 0, .ref a_13, .ref a_14, .int 0, .long 0, .long 0, .int (k_c - 1), .int p_h, .int 3, .int 1000000, .int (k_n + 1), .ref a_15, .int 0, .int (-1), .ref a_16, .int 0, .ref a_17, .ref a_18, .ref a_19, .int 0, .ref a_20, .ref a_21, .long 0, .ref a_22, .int 0])), (a_2, .inl (G.2 0, 5740, .inl (upd (upd (upd (fun _ => 0) 3 (-1)) 4 1000) 6 (-1))))] := hD
                  refine lv_if_eq (tgt := 161) hx hb dX12_go_154 (by decide) (fun c_25 => ?_) (fun c_25 => ?_)
                  ·
                    exact absurd c_25 (by decide)
                  ·
                    refine lv_iconst (v := 1) hx hb dX12_go_157 (by decide) ?_
                    refine lv_goto (tgt := 162) hx hb dX12_go_158 (by decide) ?_
                    refine lv_istore (lv' := [(5, .int 1), (6, .int (k_c - 1)), (0, .ref a_y), (1, .int p_c), (2, .int 3), (3, .int p_h), (4, .int p_s)]) hx hb dX12_go_162 hl (by decide) rfl (fun ls hl => ?_)
                    refine lv_goto (tgt := 40) hx hb dX12_go_164 (by decide) ?_
                    exact ih_40_8 (1, (k_n + 1), (k_c - 1), (upd k_f k_n.toNatClampNeg ((64 * p_h) + (k_c - 1)))) ls H locs (show Int.toNat (2 * (8 - (k_n + 1).toInt) + (1 : Int32).toInt) < Int.toNat (2 * (8 - k_n.toInt) + k_m.toInt) by have zc_k_m : (1 : Int32).toInt = 1 := (by decide); omega) ⟨lv_sub hl [0, 2, 3, 4, 5, 6] rfl, hP.sub [1, 2, 0] rfl, hD.sub [1, 2, 0] (by decide) rfl, hS, ⟨by decide, by decide⟩, ⟨by omega, by omega⟩, ⟨by omega, by omega⟩, by omega, by omega, fun h => absurd h (by decide), g5_pts (fun j => p_h.toInt * 64 + (p_c.toInt - (j + 1))) i_7 (by omega) (by omega) (by show _ = p_h.toInt * 64 + (p_c.toInt - (k_n.toInt + 1)); omega)⟩
          ·
            have i_18 : (k_c - 1).toInt < 0 := by have z := g5_geN (a := (k_c - 1).toInt) (b := 0) (by rfl) (by decide) c_18; omega
            omega
theorem dX12_clearPoints_0 : decode cX12_clearPoints 0 = .ok (.iconst 0, 1) := by decide +kernel
theorem dX12_clearPoints_1 : decode cX12_clearPoints 1 = .ok (.istore_n 1, 1) := by decide +kernel
theorem dX12_clearPoints_2 : decode cX12_clearPoints 2 = .ok (.iload_n 1, 1) := by decide +kernel
theorem dX12_clearPoints_3 : decode cX12_clearPoints 3 = .ok (.sipush 1536, 3) := by decide +kernel
theorem dX12_clearPoints_6 : decode cX12_clearPoints 6 = .ok (.if_icmp .ge 16, 3) := by decide +kernel
theorem dX12_clearPoints_9 : decode cX12_clearPoints 9 = .ok (.aload_n 0, 1) := by decide +kernel
theorem dX12_clearPoints_10 : decode cX12_clearPoints 10 = .ok (.getfield 85, 3) := by decide +kernel
theorem dX12_clearPoints_13 : decode cX12_clearPoints 13 = .ok (.iload_n 1, 1) := by decide +kernel
theorem dX12_clearPoints_14 : decode cX12_clearPoints 14 = .ok (.iconst 0, 1) := by decide +kernel
theorem dX12_clearPoints_15 : decode cX12_clearPoints 15 = .ok (.bastore, 1) := by decide +kernel
theorem dX12_clearPoints_16 : decode cX12_clearPoints 16 = .ok (.iinc 1 1, 3) := by decide +kernel
theorem dX12_clearPoints_19 : decode cX12_clearPoints 19 = .ok (.goto (-17), 3) := by decide +kernel
theorem dX12_clearPoints_22 : decode cX12_clearPoints 22 = .ok (.return_, 1) := by decide +kernel
set_option maxHeartbeats 4000000 in
set_option maxRecDepth 100000 in
theorem k_clearPoints (l : Launch) (G : g5_G) (a_y a_16 a_1 a_2 a_3 a_4 a_5 a_6 a_7 a_8 a_9 a_10 a_11 a_12 a_13 a_14 a_15 a_17 a_18 a_19 a_20 a_21 a_22 : Nat) (sz : Nat) (e_cell : Int32) (e_hour : Int32) (e_way : Int32) (e_bright : Int32) (e_points : Int32) (e_through : Int32) (e_seen : Int32) (e_dr : Int32) (e_state : Int64) (f_a : Nat → Int32) (h_e_dr : 0 ≤ e_dr.toInt ∧ e_dr.toInt ≤ 1) : Met l yX12_clearPoints (wsG yX12_clearPoints cX12_clearPoints 2 none) ({ frames := 0, cells := 0, slots := 0, locals := 0 }) (va_Pc [.ref a_y] (g5_P G [(a_y, .inr (12, [.int 0, .int 0, .ref a_1, .ref a_2, .ref a_3, .ref a_4, .int 0, .ref a_5, .int 0, .int 0, .int 0, .int 0, .long 0, .int (-1), .int 0, .int 0, .ref a_6, .int 0, .ref a_7, .ref a_8, .int 0, .ref a_9, .ref a_10, .int 0, .int 0, .ref a_11, .ref a_12, .int 0, .ref a_13, .ref a_14, .int 0, .long 0, .long 0, .int e_cell, .int e_hour, .int e_way, .int e_bright, .int e_points, .ref a_15, .int e_through, .int e_seen, .ref a_16, .int 0, .ref a_17, .ref a_18, .ref a_19, .int 0, .ref a_20, .ref a_21, .long e_state, .ref a_22, .int e_dr])), (a_16, .inl (G.2 2, 1536, .inl f_a))] sz)) (va_Qv (fun (u : va_W) => ((u = [(a_y, .inr (12, [.int 0, .int 0, .ref a_1, .ref a_2, .ref a_3, .ref a_4, .int 0, .ref a_5, .int 0, .int 0, .int 0, .int 0, .long 0, .int (-1), .int 0, .int 0, .ref a_6, .int 0, .ref a_7, .ref a_8, .int 0, .ref a_9, .ref a_10, .int 0, .int 0, .ref a_11, .ref a_12, .int 0, .ref a_13, .ref a_14, .int 0, .long 0, .long 0, .int e_cell, .int e_hour, .int e_way, .int e_bright, .int e_points, .ref a_15, .int e_through, .int e_seen, .ref a_16, .int 0, .ref a_17, .ref a_18, .ref a_19, .int 0, .ref a_20, .ref a_21, .long e_state, .ref a_22, .int e_dr])), (a_16, .inl (G.2 2, 1536, .inl (fun _ => 0)))]))) (g5_B G (va_A [(a_y, .inr (12, [.int 0, .int 0, .ref a_1, .ref a_2, .ref a_3, .ref a_4, .int 0, .ref a_5, .int 0, .int 0, .int 0, .int 0, .long 0, .int (-1), .int 0, .int 0, .ref a_6, .int 0, .ref a_7, .ref a_8, .int 0, .ref a_9, .ref a_10, .int 0, .int 0, .ref a_11, .ref a_12, .int 0, .ref a_13, .ref a_14, .int 0, .long 0, .long 0, .int e_cell, .int e_hour, .int e_way, .int e_bright, .int e_points, .ref a_15, .int e_through, .int e_seen, .ref a_16, .int 0, .ref a_17, .ref a_18, .ref a_19, .int 0, .ref a_20, .ref a_21, .long e_state, .ref a_22, .int e_dr])), (a_16, .inl (G.2 2, 1536, .inl f_a))] sz)) (va_A [(a_y, .inr (12, [.int 0, .int 0, .ref a_1, .ref a_2, .ref a_3, .ref a_4, .int 0, .ref a_5, .int 0, .int 0, .int 0, .int 0, .long 0, .int (-1), .int 0, .int 0, .ref a_6, .int 0, .ref a_7, .ref a_8, .int 0, .ref a_9, .ref a_10, .int 0, .int 0, .ref a_11, .ref a_12, .int 0, .ref a_13, .ref a_14, .int 0, .long 0, .long 0, .int e_cell, .int e_hour, .int e_way, .int e_bright, .int e_points, .ref a_15, .int e_through, .int e_seen, .ref a_16, .int 0, .ref a_17, .ref a_18, .ref a_19, .int 0, .ref a_20, .ref a_21, .long e_state, .ref a_22, .int e_dr])), (a_16, .inl (G.2 2, 1536, .inl f_a))] sz)) 0 0 (va_A [(a_y, .inr (12, [.int 0, .int 0, .ref a_1, .ref a_2, .ref a_3, .ref a_4, .int 0, .ref a_5, .int 0, .int 0, .int 0, .int 0, .long 0, .int (-1), .int 0, .int 0, .ref a_6, .int 0, .ref a_7, .ref a_8, .int 0, .ref a_9, .ref a_10, .int 0, .int 0, .ref a_11, .ref a_12, .int 0, .ref a_13, .ref a_14, .int 0, .long 0, .long 0, .int e_cell, .int e_hour, .int e_way, .int e_bright, .int e_points, .ref a_15, .int e_through, .int e_seen, .ref a_16, .int 0, .ref a_17, .ref a_18, .ref a_19, .int 0, .ref a_20, .ref a_21, .long e_state, .ref a_22, .int e_dr])), (a_16, .inl (G.2 2, 1536, .inl f_a))] sz) := by
  refine Met.ofW (cc := cX12_clearPoints) (maxL := 2) (ret := none) (by decide) rfl ?_
  intro p e s m args below meth c s₁ B hml hv
  obtain ⟨rfl, hsz, hP, hK, hD0, hN, hT⟩ := hv
  have hx := B.exec
  have hb := B.bytes
  have hr := B.returns
  have hts : ∀ w ∈ tblG, w.before _ s = true := fun w h => atoms_spec (ws := (wsG yX12_clearPoints cX12_clearPoints 2 none)) B.pre w (List.mem_cons_of_mem _ h)
  have hown : s.vm.findClass RX12 = some m.cls := findClass_of_methodNamed B.named
  have hlocks := B.notSynchronized
  subst hsz
  have hD := hD0.self (sz := s.heap.size)
  generalize hAe : va_A [(a_y, .inr (12, [.int 0, .int 0, .ref a_1, .ref a_2, .ref a_3, .ref a_4, .int 0, .ref a_5, .int 0, .int 0, .int 0, .int 0, .long 0, .int (-1), .int 0, .int 0, .ref a_6, .int 0, .ref a_7, .ref a_8, .int 0, .ref a_9, .ref a_10, .int 0, .int 0, .ref a_11, .ref a_12, .int 0, .ref a_13, .ref a_14, .int 0, .long 0, .long 0, .int e_cell, .int e_hour, .int e_way, .int e_bright, .int e_points, .ref a_15, .int e_through, .int e_seen, .ref a_16, .int 0, .ref a_17, .ref a_18, .ref a_19, .int 0, .ref a_20, .ref a_21, .long e_state, .ref a_22, .int e_dr])), (a_16, .inl (G.2 2, 1536, .inl f_a))] s.heap.size = A at hD hT ⊢
  have hA : ∀ q : Nat, s.heap.size ≤ q → A q := fun q h => by rw [← hAe]; exact Or.inr h
  have hS : va_S A s.heap s.heap [] := va_S.rf
  have hP : va_P G.1 vwCl [(a_y, .inr (12, [.int 0, .int 0, .ref a_1, .ref a_2, .ref a_3, .ref a_4, .int 0, .ref a_5, .int 0, .int 0, .int 0, .int 0, .long 0, .int (-1), .int 0, .int 0, .ref a_6, .int 0, .ref a_7, .ref a_8, .int 0, .ref a_9, .ref a_10, .int 0, .int 0, .ref a_11, .ref a_12, .int 0, .ref a_13, .ref a_14, .int 0, .long 0, .long 0, .int e_cell, .int e_hour, .int e_way, .int e_bright, .int e_points, .ref a_15, .int e_through, .int e_seen, .ref a_16, .int 0, .ref a_17, .ref a_18, .ref a_19, .int 0, .ref a_20, .ref a_21, .long e_state, .ref a_22, .int e_dr])), (a_16, .inl (G.2 2, 1536, .inl f_a))] s.heap := hP
  have hl := lv_entry ([.ref a_y]) (n := 2) (Nat.le_of_ble_eq_true rfl)
  rw [lg_entry_eq]
  generalize (lg_sl ([.ref a_y]) ++ List.replicate (2 - (lg_sl ([.ref a_y])).length) Slot.unset).toArray = ls at hl ⊢
  have hl : lv_has ls 2 [(0, .ref a_y)] := hl
  refine lv_iconst (v := 0) hx hb dX12_clearPoints_0 (by decide) ?_
  refine lv_istore_n (lv' := [(1, .int 0), (0, .ref a_y)]) hx hb dX12_clearPoints_1 rfl hl (by decide) rfl (fun ls hl => ?_)
  refine g5_loop (α := (Int32) × (Nat → Int32)) (fun (q : (Int32) × (Nat → Int32)) (ls : Array Slot) (H : Heap) (locs : List Loc) => match q with | (k_i, k_f) => lv_has ls 2 [(1, .int k_i), (0, .ref a_y)] ∧ va_P G.1 vwCl [(a_y, .inr (12, [.int 0, .int 0, .ref a_1, .ref a_2, .ref a_3, .ref a_4, .int 0, .ref a_5, .int 0, .int 0, .int 0, .int 0, .long 0, .int (-1), .int 0, .int 0, .ref a_6, .int 0, .ref a_7, .ref a_8, .int 0, .ref a_9, .ref a_10, .int 0, .int 0, .ref a_11, .ref a_12, .int 0, .ref a_13, .ref a_14, .int 0, .long 0, .long 0, .int e_cell, .int e_hour, .int e_way, .int e_bright, .int e_points, .ref a_15, .int e_through, .int e_seen, .ref a_16, .int 0, .ref a_17, .ref a_18, .ref a_19, .int 0, .ref a_20, .ref a_21, .long e_state, .ref a_22, .int e_dr])), (a_16, .inl (G.2 2, 1536, .inl k_f))] H ∧ va_D A [(a_y, .inr (12, [.int 0, .int 0, .ref a_1, .ref a_2, .ref a_3, .ref a_4, .int 0, .ref a_5, .int 0, .int 0, .int 0, .int 0, .long 0, .int (-1), .int 0, .int 0, .ref a_6, .int 0, .ref a_7, .ref a_8, .int 0, .ref a_9, .ref a_10, .int 0, .int 0, .ref a_11, .ref a_12, .int 0, .ref a_13, .ref a_14, .int 0, .long 0, .long 0, .int e_cell, .int e_hour, .int e_way, .int e_bright, .int e_points, .ref a_15, .int e_through, .int e_seen, .ref a_16, .int 0, .ref a_17, .ref a_18, .ref a_19, .int 0, .ref a_20, .ref a_21, .long e_state, .ref a_22, .int e_dr])), (a_16, .inl (G.2 2, 1536, .inl k_f))] ∧ va_S A s.heap H locs ∧ (0 ≤ k_i.toInt ∧ k_i.toInt ≤ 1536) ∧ (∀ j : Nat, (j : Int) < k_i.toInt → k_f j = (fun _ => 0) j)) (fun (q : (Int32) × (Nat → Int32)) => match q with | (k_i, k_f) => Int.toNat (1536 - k_i.toInt)) (0, f_a) ⟨lv_sub hl [0, 1] rfl, hP, hD, hS, ⟨by decide, by decide⟩, fun j h => absurd h (by have z : (0 : Int32).toInt = 0 := (by decide); omega)⟩ ?_
  rintro ⟨k_i, k_f⟩ ls H locs ⟨hl, hP, hD, hS, i_1, i_2⟩ ih_2_3
  have hl : lv_has ls 2 [(1, .int k_i), (0, .ref a_y)] := hl
  have i_1 : 0 ≤ k_i.toInt ∧ k_i.toInt ≤ 1536 := i_1
  have i_2 : ∀ j : Nat, (j : Int) < k_i.toInt → k_f j = (fun _ => 0) j := i_2
  have hP : va_P G.1 vwCl [(a_y, .inr (12, [.int 0, .int 0, .ref a_1, .ref a_2, .ref a_3, .ref a_4, .int 0, .ref a_5, .int 0, .int 0, .int 0, .int 0, .long 0, .int (-1), .int 0, .int 0, .ref a_6, .int 0, .ref a_7, .ref a_8, .int 0, .ref a_9, .ref a_10, .int 0, .int 0, .ref a_11, .ref a_12, .int 0, .ref a_13, .ref a_14, .int 0, .long 0, .long 0, .int e_cell, .int e_hour, .int e_way, .int e_bright, .int e_points, .ref a_15, .int e_through, .int e_seen, .ref a_16, .int 0, .ref a_17, .ref a_18, .ref a_19, .int 0, .ref a_20, .ref a_21, .long e_state, .ref a_22, .int e_dr])), (a_16, .inl (G.2 2, 1536, .inl k_f))] H := hP
  have hD : va_D A [(a_y, .inr (12, [.int 0, .int 0, .ref a_1, .ref a_2, .ref a_3, .ref a_4, .int 0, .ref a_5, .int 0, .int 0, .int 0, .int 0, .long 0, .int (-1), .int 0, .int 0, .ref a_6, .int 0, .ref a_7, .ref a_8, .int 0, .ref a_9, .ref a_10, .int 0, .int 0, .ref a_11, .ref a_12, .int 0, .ref a_13, .ref a_14, .int 0, .long 0, .long 0, .int e_cell, .int e_hour, .int e_way, .int e_bright, .int e_points, .ref a_15, .int e_through, .int e_seen, .ref a_16, .int 0, .ref a_17, .ref a_18, .ref a_19, .int 0, .ref a_20, .ref a_21, .long e_state, .ref a_22, .int e_dr])), (a_16, .inl (G.2 2, 1536, .inl k_f))] := hD
  refine lv_iload_n hx hb dX12_clearPoints_2 rfl (lv_at hl 0 rfl) ?_
  refine lv_sipush (v := 1536) hx hb dX12_clearPoints_3 (by decide) ?_
  refine lv_icmp_ge (tgt := 22) hx hb dX12_clearPoints_6 (by decide) (fun c_4 => ?_) (fun c_4 => ?_)
  ·
    have i_4 : k_i.toInt ≥ 1536 := by have z := g5_ge (a := k_i.toInt) (b := 1536) (by rfl) (by decide) c_4; omega
    obtain ⟨hP, hD⟩ := g5_cvI hP hD 1 (f := k_f) (g := (fun _ => 0)) rfl (fun j h => i_2 j (by omega))
    have hP : va_P G.1 vwCl [(a_y, .inr (12, [.int 0, .int 0, .ref a_1, .ref a_2, .ref a_3, .ref a_4, .int 0, .ref a_5, .int 0, .int 0, .int 0, .int 0, .long 0, .int (-1), .int 0, .int 0, .ref a_6, .int 0, .ref a_7, .ref a_8, .int 0, .ref a_9, .ref a_10, .int 0, .int 0, .ref a_11, .ref a_12, .int 0, .ref a_13, .ref a_14, .int 0, .long 0, .long 0, .int e_cell, .int e_hour, .int e_way, .int e_bright, .int e_points, .ref a_15, .int e_through, .int e_seen, .ref a_16, .int 0, .ref a_17, .ref a_18, .ref a_19, .int 0, .ref a_20, .ref a_21, .long e_state, .ref a_22, .int e_dr])), (a_16, .inl (G.2 2, 1536, .inl (fun _ => 0)))] H := hP
    have hD : va_D A [(a_y, .inr (12, [.int 0, .int 0, .ref a_1, .ref a_2, .ref a_3, .ref a_4, .int 0, .ref a_5, .int 0, .int 0, .int 0, .int 0, .long 0, .int (-1), .int 0, .int 0, .ref a_6, .int 0, .ref a_7, .ref a_8, .int 0, .ref a_9, .ref a_10, .int 0, .int 0, .ref a_11, .ref a_12, .int 0, .ref a_13, .ref a_14, .int 0, .long 0, .long 0, .int e_cell, .int e_hour, .int e_way, .int e_bright, .int e_points, .ref a_15, .int e_through, .int e_seen, .ref a_16, .int 0, .ref a_17, .ref a_18, .ref a_19, .int 0, .ref a_20, .ref a_21, .long e_state, .ref a_22, .int e_dr])), (a_16, .inl (G.2 2, 1536, .inl (fun _ => 0)))] := hD
    exact W.vret hx hb hr (fun t ht hW => ⟨⟨[(a_y, .inr (12, [.int 0, .int 0, .ref a_1, .ref a_2, .ref a_3, .ref a_4, .int 0, .ref a_5, .int 0, .int 0, .int 0, .int 0, .long 0, .int (-1), .int 0, .int 0, .ref a_6, .int 0, .ref a_7, .ref a_8, .int 0, .ref a_9, .ref a_10, .int 0, .int 0, .ref a_11, .ref a_12, .int 0, .ref a_13, .ref a_14, .int 0, .long 0, .long 0, .int e_cell, .int e_hour, .int e_way, .int e_bright, .int e_points, .ref a_15, .int e_through, .int e_seen, .ref a_16, .int 0, .ref a_17, .ref a_18, .ref a_19, .int 0, .ref a_20, .ref a_21, .long e_state, .ref a_22, .int e_dr])), (a_16, .inl (G.2 2, 1536, .inl (fun _ => 0)))], rfl, rfl, by rw [ht]; exact hP.sub [0, 1] rfl, hD.sub [0, 1] (by decide) rfl⟩, hS.F ht⟩) hS.2.2 dX12_clearPoints_22
  ·
    have i_4 : k_i.toInt < 1536 := by have z := g5_geN (a := k_i.toInt) (b := 1536) (by rfl) (by decide) c_4; omega
    refine lv_aload_n hx hb dX12_clearPoints_9 rfl (lv_at hl 1 rfl) ?_
    refine va_get (D := G.1) (ci := 12) (v := .ref a_16) (C := RX12) (T := TX12) (N := 52) hx hb hts inG_X12 hown hK hP 0 rfl rfl 41 (by decide) (hts _ fl_X12_85) (fun _ h9 => h9) rfl dX12_clearPoints_10 ?_
    refine lv_iload_n hx hb dX12_clearPoints_13 rfl (lv_at hl 0 rfl) ?_
    refine lv_iconst (v := 0) hx hb dX12_clearPoints_14 (by decide) ?_
    refine va_zast hx hb hK hP hD hS 1 2 rfl rfl (i := k_i) (x := 0) (vp_in_iff.mpr ⟨by omega, by omega⟩) dX12_clearPoints_15 (fun H locs hP hD hS => ?_)
    have hP : va_P G.1 vwCl [(a_y, .inr (12, [.int 0, .int 0, .ref a_1, .ref a_2, .ref a_3, .ref a_4, .int 0, .ref a_5, .int 0, .int 0, .int 0, .int 0, .long 0, .int (-1), .int 0, .int 0, .ref a_6, .int 0, .ref a_7, .ref a_8, .int 0, .ref a_9, .ref a_10, .int 0, .int 0, .ref a_11, .ref a_12, .int 0, .ref a_13, .ref a_14, .int 0, .long 0, .long 0, .int e_cell, .int e_hour, .int e_way, .int e_bright, .int e_points, .ref a_15, .int e_through, .int e_seen, .ref a_16, .int 0, .ref a_17, .ref a_18, .ref a_19, .int 0, .ref a_20, .ref a_21, .long e_state, .ref a_22, .int e_dr])), (a_16, .inl (G.2 2, 1536, .inl (upd k_f k_i.toNatClampNeg 0)))] H := hP
    have hD : va_D A [(a_y, .inr (12, [.int 0, .int 0, .ref a_1, .ref a_2, .ref a_3, .ref a_4, .int 0, .ref a_5, .int 0, .int 0, .int 0, .int 0, .long 0, .int (-1), .int 0, .int 0, .ref a_6, .int 0, .ref a_7, .ref a_8, .int 0, .ref a_9, .ref a_10, .int 0, .int 0, .ref a_11, .ref a_12, .int 0, .ref a_13, .ref a_14, .int 0, .long 0, .long 0, .int e_cell, .int e_hour, .int e_way, .int e_bright, .int e_points, .ref a_15, .int e_through, .int e_seen, .ref a_16, .int 0, .ref a_17, .ref a_18, .ref a_19, .int 0, .ref a_20, .ref a_21, .long e_state, .ref a_22, .int e_dr])), (a_16, .inl (G.2 2, 1536, .inl (upd k_f k_i.toNatClampNeg 0)))] := hD
    refine lv_iinc (v := (k_i + 1)) (lv' := [(1, .int (k_i + 1)), (0, .ref a_y)]) hx hb dX12_clearPoints_16 hl (k := 0) rfl rfl (by decide) rfl (fun ls hl => ?_)
    have t_5 : (k_i + 1).toInt = k_i.toInt + 1 := g5_iadd (a := k_i.toInt) (b := 1) rfl (by decide) (by omega) (by omega)
    refine lv_goto (tgt := 2) hx hb dX12_clearPoints_19 (by decide) ?_
    exact ih_2_3 ((k_i + 1), (upd k_f k_i.toNatClampNeg 0)) ls H locs (show Int.toNat (1536 - (k_i + 1).toInt) < Int.toNat (1536 - k_i.toInt) by omega) ⟨lv_sub hl [0, 1] rfl, hP, hD, hS, ⟨by omega, by omega⟩, g5_fillI i_2 (by omega) (by omega) rfl⟩
theorem dX12_image_0 : decode cX12_image 0 = .ok (.aload_n 0, 1) := by decide +kernel
theorem dX12_image_1 : decode cX12_image 1 = .ok (.iconst 0, 1) := by decide +kernel
theorem dX12_image_2 : decode cX12_image 2 = .ok (.putfield 107, 3) := by decide +kernel
theorem dX12_image_5 : decode cX12_image 5 = .ok (.iload_n 1, 1) := by decide +kernel
theorem dX12_image_6 : decode cX12_image 6 = .ok (.i2l, 1) := by decide +kernel
theorem dX12_image_7 : decode cX12_image 7 = .ok (.lconst 0, 1) := by decide +kernel
theorem dX12_image_8 : decode cX12_image 8 = .ok (.lconst 1, 1) := by decide +kernel
theorem dX12_image_9 : decode cX12_image 9 = .ok (.invokestatic 121, 3) := by decide +kernel
theorem dX12_image_12 : decode cX12_image 12 = .ok (.ifCond .ne 9, 3) := by decide +kernel
theorem dX12_image_15 : decode cX12_image 15 = .ok (.aload_n 0, 1) := by decide +kernel
theorem dX12_image_16 : decode cX12_image 16 = .ok (.iconst (-1), 1) := by decide +kernel
theorem dX12_image_17 : decode cX12_image 17 = .ok (.invokevirtual 125, 3) := by decide +kernel
theorem dX12_image_20 : decode cX12_image 20 = .ok (.ireturn, 1) := by decide +kernel
theorem dX12_image_21 : decode cX12_image 21 = .ok (.iconst 0, 1) := by decide +kernel
theorem dX12_image_22 : decode cX12_image 22 = .ok (.istore_n 2, 1) := by decide +kernel
theorem dX12_image_23 : decode cX12_image 23 = .ok (.iload_n 2, 1) := by decide +kernel
theorem dX12_image_24 : decode cX12_image 24 = .ok (.sipush 5740, 3) := by decide +kernel
theorem dX12_image_27 : decode cX12_image 27 = .ok (.if_icmp .ge 27, 3) := by decide +kernel
theorem dX12_image_30 : decode cX12_image 30 = .ok (.aload_n 0, 1) := by decide +kernel
theorem dX12_image_31 : decode cX12_image 31 = .ok (.getfield 16, 3) := by decide +kernel
theorem dX12_image_34 : decode cX12_image 34 = .ok (.sipush 5740, 3) := by decide +kernel
theorem dX12_image_37 : decode cX12_image 37 = .ok (.iload_n 1, 1) := by decide +kernel
theorem dX12_image_38 : decode cX12_image 38 = .ok (.imul, 1) := by decide +kernel
theorem dX12_image_39 : decode cX12_image 39 = .ok (.iload_n 2, 1) := by decide +kernel
theorem dX12_image_40 : decode cX12_image 40 = .ok (.iadd, 1) := by decide +kernel
theorem dX12_image_41 : decode cX12_image 41 = .ok (.aload_n 0, 1) := by decide +kernel
theorem dX12_image_42 : decode cX12_image 42 = .ok (.getfield 13, 3) := by decide +kernel
theorem dX12_image_45 : decode cX12_image 45 = .ok (.iload_n 2, 1) := by decide +kernel
theorem dX12_image_46 : decode cX12_image 46 = .ok (.iaload, 1) := by decide +kernel
theorem dX12_image_47 : decode cX12_image 47 = .ok (.iastore, 1) := by decide +kernel
theorem dX12_image_48 : decode cX12_image 48 = .ok (.iinc 2 1, 3) := by decide +kernel
theorem dX12_image_51 : decode cX12_image 51 = .ok (.goto (-28), 3) := by decide +kernel
theorem dX12_image_54 : decode cX12_image 54 = .ok (.aload_n 0, 1) := by decide +kernel
theorem dX12_image_55 : decode cX12_image 55 = .ok (.getfield 19, 3) := by decide +kernel
theorem dX12_image_58 : decode cX12_image 58 = .ok (.iload_n 1, 1) := by decide +kernel
theorem dX12_image_59 : decode cX12_image 59 = .ok (.iconst 1, 1) := by decide +kernel
theorem dX12_image_60 : decode cX12_image 60 = .ok (.bastore, 1) := by decide +kernel
theorem dX12_image_61 : decode cX12_image 61 = .ok (.aload_n 0, 1) := by decide +kernel
theorem dX12_image_62 : decode cX12_image 62 = .ok (.iconst 0, 1) := by decide +kernel
theorem dX12_image_63 : decode cX12_image 63 = .ok (.invokevirtual 125, 3) := by decide +kernel
theorem dX12_image_66 : decode cX12_image 66 = .ok (.ireturn, 1) := by decide +kernel
theorem fl_X12_107 : Cond.fieldLink RX12 107 "LateGlassModel" "thrown" "I" ∈ tblG := tg 1203 (by decide +kernel) (by decide +kernel)
set_option maxHeartbeats 4000000 in
set_option maxRecDepth 100000 in
theorem k_in_0_1 (l : Launch) (G : g5_G) (sz : Nat) (p_x : Int32) : Met l yX12_in (wsG yX12_in cX12_in 6 (some .boolean)) ({ frames := 0, cells := 0, slots := 0, locals := 0 }) (va_Pc [.long p_x.toInt64, .long 0, .long 1] (g5_P G [] sz)) (va_Qi (fun (r : Int32) (u : va_W) => ((p_x.toInt < 0 ∨ 1 < p_x.toInt) ∧ (r = 0) ∧ (u = [])) ∨ ((0 ≤ p_x.toInt ∧ p_x.toInt ≤ 1) ∧ (r = 1) ∧ (u = []))) (g5_B G (va_A [] sz)) (va_A [] sz)) 0 0 (va_A [] sz) := by
  refine Met.ofW (cc := cX12_in) (maxL := 6) (ret := (some .boolean)) (by decide) rfl ?_
  intro p e s m args below meth c s₁ B hml hv
  obtain ⟨rfl, hsz, hP, hK, hD0, hN, hT⟩ := hv
  have hx := B.exec
  have hb := B.bytes
  have hr := B.returns
  have hts : ∀ w ∈ tblG, w.before _ s = true := fun w h => atoms_spec (ws := (wsG yX12_in cX12_in 6 (some .boolean))) B.pre w (List.mem_cons_of_mem _ h)
  have hown : s.vm.findClass RX12 = some m.cls := findClass_of_methodNamed B.named
  have hlocks := B.notSynchronized
  subst hsz
  have hD := hD0.self (sz := s.heap.size)
  generalize hAe : va_A [] s.heap.size = A at hD hT ⊢
  have hA : ∀ q : Nat, s.heap.size ≤ q → A q := fun q h => by rw [← hAe]; exact Or.inr h
  have hS : va_S A s.heap s.heap [] := va_S.rf
  have hP : va_P G.1 vwCl [] s.heap := hP
  have hl := lv_entry ([.long p_x.toInt64, .long 0, .long 1]) (n := 6) (Nat.le_of_ble_eq_true rfl)
  rw [lg_entry_eq]
  generalize (lg_sl ([.long p_x.toInt64, .long 0, .long 1]) ++ List.replicate (6 - (lg_sl ([.long p_x.toInt64, .long 0, .long 1])).length) Slot.unset).toArray = ls at hl ⊢
  have hl : lv_has ls 6 [(0, .long p_x.toInt64), (2, .long 0), (4, .long 1)] := hl
  refine lv_lload_n hx hb dX12_in_0 rfl (lv_at hl 0 rfl) ?_
  refine lv_lload_n hx hb dX12_in_1 rfl (lv_at hl 1 rfl) ?_
  have tl_1 : p_x.toInt64.toInt = p_x.toInt := Int32.toInt_toInt64 _
  have tl_2 : (0 : Int64).toInt = 0 := by decide
  have tc_3 := g5_cmpI p_x.toInt64 0
  refine W.lcmp hx hb dX12_in_2 ?_
  refine lv_if_lt (tgt := 17) hx hb dX12_in_3 (by decide) (fun c_4 => ?_) (fun c_4 => ?_)
  ·
    have i_4 : (lg_cmp p_x.toInt64 0).toInt < 0 := by have z := g5_lt (a := (lg_cmp p_x.toInt64 0).toInt) (b := 0) (by rfl) (by decide) c_4; omega
    refine lv_iconst (v := 0) hx hb dX12_in_17 (by decide) ?_
    exact W.zret (v := 0) hx hb hr rfl (fun t ht hW => ⟨⟨0, [], rfl, Or.inl (⟨by omega, rfl, rfl⟩), by rw [ht]; exact hP.sub [] rfl, hD.sub [] (by decide) rfl⟩, hS.F ht⟩) hS.2.2 dX12_in_18
  ·
    have i_4 : (lg_cmp p_x.toInt64 0).toInt ≥ 0 := by have z := g5_ltN (a := (lg_cmp p_x.toInt64 0).toInt) (b := 0) (by rfl) (by decide) c_4; omega
    refine lv_lload_n hx hb dX12_in_6 rfl (lv_at hl 0 rfl) ?_
    refine lv_lload hx hb dX12_in_7 (lv_at hl 2 rfl) ?_
    have tl_5 : p_x.toInt64.toInt = p_x.toInt := Int32.toInt_toInt64 _
    have tl_6 : (1 : Int64).toInt = 1 := by decide
    have tc_7 := g5_cmpI p_x.toInt64 1
    refine W.lcmp hx hb dX12_in_9 ?_
    refine lv_if_gt (tgt := 17) hx hb dX12_in_10 (by decide) (fun c_8 => ?_) (fun c_8 => ?_)
    ·
      have i_8 : (lg_cmp p_x.toInt64 1).toInt > 0 := by have z := g5_gt (a := (lg_cmp p_x.toInt64 1).toInt) (b := 0) (by rfl) (by decide) c_8; omega
      refine lv_iconst (v := 0) hx hb dX12_in_17 (by decide) ?_
      exact W.zret (v := 0) hx hb hr rfl (fun t ht hW => ⟨⟨0, [], rfl, Or.inl (⟨by omega, rfl, rfl⟩), by rw [ht]; exact hP.sub [] rfl, hD.sub [] (by decide) rfl⟩, hS.F ht⟩) hS.2.2 dX12_in_18
    ·
      have i_8 : (lg_cmp p_x.toInt64 1).toInt ≤ 0 := by have z := g5_gtN (a := (lg_cmp p_x.toInt64 1).toInt) (b := 0) (by rfl) (by decide) c_8; omega
      refine lv_iconst (v := 1) hx hb dX12_in_13 (by decide) ?_
      refine lv_goto (tgt := 18) hx hb dX12_in_14 (by decide) ?_
      exact W.zret (v := 1) hx hb hr rfl (fun t ht hW => ⟨⟨1, [], rfl, Or.inr (⟨by omega, rfl, rfl⟩), by rw [ht]; exact hP.sub [] rfl, hD.sub [] (by decide) rfl⟩, hS.F ht⟩) hS.2.2 dX12_in_18
theorem ml_X12_121 : Cond.methodLink RX12 121 yX12_in ∈ tblG := tg 1364 (by decide +kernel) (by decide +kernel)
theorem st_X12_in : Cond.static yX12_in ∈ tblG := tg 1365 (by decide +kernel) (by decide +kernel)
theorem cd_X12_in : Cond.code yX12_in cX12_in 6 (some .boolean) ∈ tblG := tg 1366 (by decide +kernel) (by decide +kernel)
theorem gW_X12_in : GoodIn tblG (wsG yX12_in cX12_in 6 (some .boolean)) := tgi cd_X12_in
theorem gS_X12_121 : GoodIn tblG (va_wsS RX12 121 yX12_in (wsG yX12_in cX12_in 6 (some .boolean))) := tgS ml_X12_121 st_X12_in ini_X12 gW_X12_in
theorem hs_X12_in : yX12_in.cls ≠ "java/lang/invoke/MethodHandle" ∧ yX12_in.cls ≠ "java/lang/invoke/VarHandle" ∧ (parseMethodDescriptor yX12_in.desc).map (fun d => d.parameters.length) = some 3 := by decide +kernel
theorem fl_X12_110 : Cond.fieldLink RX12 110 "LateGlassModel" "status" "I" ∈ tblG := tg 1204 (by decide +kernel) (by decide +kernel)
theorem fl_X12_113 : Cond.fieldLink RX12 113 "LateGlassModel" "isCounted" "Z" ∈ tblG := tg 1245 (by decide +kernel) (by decide +kernel)
theorem dX12_tell_0 : decode cX12_tell 0 = .ok (.aload_n 0, 1) := by decide +kernel
theorem dX12_tell_1 : decode cX12_tell 1 = .ok (.iload_n 1, 1) := by decide +kernel
theorem dX12_tell_2 : decode cX12_tell 2 = .ok (.ifCond .ge 7, 3) := by decide +kernel
theorem dX12_tell_5 : decode cX12_tell 5 = .ok (.iload_n 1, 1) := by decide +kernel
theorem dX12_tell_6 : decode cX12_tell 6 = .ok (.goto 4, 3) := by decide +kernel
theorem dX12_tell_9 : decode cX12_tell 9 = .ok (.iconst 0, 1) := by decide +kernel
theorem dX12_tell_10 : decode cX12_tell 10 = .ok (.putfield 110, 3) := by decide +kernel
theorem dX12_tell_13 : decode cX12_tell 13 = .ok (.aload_n 0, 1) := by decide +kernel
theorem dX12_tell_14 : decode cX12_tell 14 = .ok (.aload_n 0, 1) := by decide +kernel
theorem dX12_tell_15 : decode cX12_tell 15 = .ok (.getfield 113, 3) := by decide +kernel
theorem dX12_tell_18 : decode cX12_tell 18 = .ok (.ifCond .eq 11, 3) := by decide +kernel
theorem dX12_tell_21 : decode cX12_tell 21 = .ok (.iload_n 1, 1) := by decide +kernel
theorem dX12_tell_22 : decode cX12_tell 22 = .ok (.ifCond .ge 7, 3) := by decide +kernel
theorem dX12_tell_25 : decode cX12_tell 25 = .ok (.iconst 1, 1) := by decide +kernel
theorem dX12_tell_26 : decode cX12_tell 26 = .ok (.goto 4, 3) := by decide +kernel
theorem dX12_tell_29 : decode cX12_tell 29 = .ok (.iconst 0, 1) := by decide +kernel
theorem dX12_tell_30 : decode cX12_tell 30 = .ok (.putfield 113, 3) := by decide +kernel
theorem dX12_tell_33 : decode cX12_tell 33 = .ok (.iload_n 1, 1) := by decide +kernel
theorem dX12_tell_34 : decode cX12_tell 34 = .ok (.ifCond .ge 14, 3) := by decide +kernel
theorem dX12_tell_37 : decode cX12_tell 37 = .ok (.aload_n 0, 1) := by decide +kernel
theorem dX12_tell_38 : decode cX12_tell 38 = .ok (.getfield 7, 3) := by decide +kernel
theorem dX12_tell_41 : decode cX12_tell 41 = .ok (.iload_n 1, 1) := by decide +kernel
theorem dX12_tell_42 : decode cX12_tell 42 = .ok (.ineg, 1) := by decide +kernel
theorem dX12_tell_43 : decode cX12_tell 43 = .ok (.dup2, 1) := by decide +kernel
theorem dX12_tell_44 : decode cX12_tell 44 = .ok (.iaload, 1) := by decide +kernel
theorem dX12_tell_45 : decode cX12_tell 45 = .ok (.iconst 1, 1) := by decide +kernel
theorem dX12_tell_46 : decode cX12_tell 46 = .ok (.iadd, 1) := by decide +kernel
theorem dX12_tell_47 : decode cX12_tell 47 = .ok (.iastore, 1) := by decide +kernel
theorem dX12_tell_48 : decode cX12_tell 48 = .ok (.iload_n 1, 1) := by decide +kernel
theorem dX12_tell_49 : decode cX12_tell 49 = .ok (.ireturn, 1) := by decide +kernel
set_option maxHeartbeats 4000000 in
set_option maxRecDepth 100000 in
theorem kX12_tell (l : Launch) (G : g5_G) (a0 a1 a2 a3 a4 a5 a6 a7 a8 a9 a10 a11 a12 a13 a14 a15 a16 a17 a18 a19 a20 a21 a22 : Nat) (sz : Nat) : Met l yX12_tell (wsG yX12_tell cX12_tell 2 (some .int)) ({ frames := 0, cells := 0, slots := 0, locals := 0 }) (va_Pc [.ref a0, .int (-1)] (g5_P G [(a0, .inr (12, [.int 0, .int 0, .ref a1, .ref a2, .ref a3, .ref a4, .int 0, .ref a5, .int 0, .int 0, .int 0, .int 0, .long 0, .int (-1), .int 0, .int 0, .ref a6, .int 0, .ref a7, .ref a8, .int 0, .ref a9, .ref a10, .int 0, .int 0, .ref a11, .ref a12, .int 0, .ref a13, .ref a14, .int 0, .long 0, .long 0, .int 0, .int 0, .int 0, .int 0, .int 0, .ref a15, .int 0, .int 0, .ref a16, .int 0, .ref a17, .ref a18, .ref a19, .int 0, .ref a20, .ref a21, .long 0, .ref a22, .int 0])), (a1, .inl (G.2 0, 7, .inl (fun _ => 0)))] sz)) (va_Qi (fun (r : Int32) (u : va_W) => ((r = (-1)) ∧ (u = [(a0, .inr (12, [.int 0, .int (-1), .ref a1, .ref a2, .ref a3, .ref a4, .int 0, .ref a5, .int 0, .int 0, .int 0, .int 0, .long 0, .int (-1), .int 0, .int 0, .ref a6, .int 0, .ref a7, .ref a8, .int 0, .ref a9, .ref a10, .int 0, .int 0, .ref a11, .ref a12, .int 0, .ref a13, .ref a14, .int 0, .long 0, .long 0, .int 0, .int 0, .int 0, .int 0, .int 0, .ref a15, .int 0, .int 0, .ref a16, .int 0, .ref a17, .ref a18, .ref a19, .int 0, .ref a20, .ref a21, .long 0, .ref a22, .int 0])), (a1, .inl (G.2 0, 7, .inl (upd (fun _ => 0) 1 1)))]))) (g5_B G (va_A [(a0, .inr (12, [.int 0, .int 0, .ref a1, .ref a2, .ref a3, .ref a4, .int 0, .ref a5, .int 0, .int 0, .int 0, .int 0, .long 0, .int (-1), .int 0, .int 0, .ref a6, .int 0, .ref a7, .ref a8, .int 0, .ref a9, .ref a10, .int 0, .int 0, .ref a11, .ref a12, .int 0, .ref a13, .ref a14, .int 0, .long 0, .long 0, .int 0, .int 0, .int 0, .int 0, .int 0, .ref a15, .int 0, .int 0, .ref a16, .int 0, .ref a17, .ref a18, .ref a19, .int 0, .ref a20, .ref a21, .long 0, .ref a22, .int 0])), (a1, .inl (G.2 0, 7, .inl (fun _ => 0)))] sz)) (va_A [(a0, .inr (12, [.int 0, .int 0, .ref a1, .ref a2, .ref a3, .ref a4, .int 0, .ref a5, .int 0, .int 0, .int 0, .int 0, .long 0, .int (-1), .int 0, .int 0, .ref a6, .int 0, .ref a7, .ref a8, .int 0, .ref a9, .ref a10, .int 0, .int 0, .ref a11, .ref a12, .int 0, .ref a13, .ref a14, .int 0, .long 0, .long 0, .int 0, .int 0, .int 0, .int 0, .int 0, .ref a15, .int 0, .int 0, .ref a16, .int 0, .ref a17, .ref a18, .ref a19, .int 0, .ref a20, .ref a21, .long 0, .ref a22, .int 0])), (a1, .inl (G.2 0, 7, .inl (fun _ => 0)))] sz)) 0 0 (va_A [(a0, .inr (12, [.int 0, .int 0, .ref a1, .ref a2, .ref a3, .ref a4, .int 0, .ref a5, .int 0, .int 0, .int 0, .int 0, .long 0, .int (-1), .int 0, .int 0, .ref a6, .int 0, .ref a7, .ref a8, .int 0, .ref a9, .ref a10, .int 0, .int 0, .ref a11, .ref a12, .int 0, .ref a13, .ref a14, .int 0, .long 0, .long 0, .int 0, .int 0, .int 0, .int 0, .int 0, .ref a15, .int 0, .int 0, .ref a16, .int 0, .ref a17, .ref a18, .ref a19, .int 0, .ref a20, .ref a21, .long 0, .ref a22, .int 0])), (a1, .inl (G.2 0, 7, .inl (fun _ => 0)))] sz) := by
  refine Met.ofW (cc := cX12_tell) (maxL := 2) (ret := (some .int)) (by decide) rfl ?_
  intro p e s m args below meth c s₁ B hml hv
  obtain ⟨rfl, hsz, hP, hK, hD0, hN, hT⟩ := hv
  have hx := B.exec
  have hb := B.bytes
  have hr := B.returns
  have hts : ∀ w ∈ tblG, w.before _ s = true := fun w h => atoms_spec (ws := (wsG yX12_tell cX12_tell 2 (some .int))) B.pre w (List.mem_cons_of_mem _ h)
  have hown : s.vm.findClass RX12 = some m.cls := findClass_of_methodNamed B.named
  have hlocks := B.notSynchronized
  subst hsz
  have hD := hD0.self (sz := s.heap.size)
  generalize hAe : va_A [(a0, .inr (12, [.int 0, .int 0, .ref a1, .ref a2, .ref a3, .ref a4, .int 0, .ref a5, .int 0, .int 0, .int 0, .int 0, .long 0, .int (-1), .int 0, .int 0, .ref a6, .int 0, .ref a7, .ref a8, .int 0, .ref a9, .ref a10, .int 0, .int 0, .ref a11, .ref a12, .int 0, .ref a13, .ref a14, .int 0, .long 0, .long 0, .int 0, .int 0, .int 0, .int 0, .int 0, .ref a15, .int 0, .int 0, .ref a16, .int 0, .ref a17, .ref a18, .ref a19, .int 0, .ref a20, .ref a21, .long 0, .ref a22, .int 0])), (a1, .inl (G.2 0, 7, .inl (fun _ => 0)))] s.heap.size = A at hD hT ⊢
  have hA : ∀ q : Nat, s.heap.size ≤ q → A q := fun q h => by rw [← hAe]; exact Or.inr h
  have hS : va_S A s.heap s.heap [] := va_S.rf
  have hP : va_P G.1 vwCl [(a0, .inr (12, [.int 0, .int 0, .ref a1, .ref a2, .ref a3, .ref a4, .int 0, .ref a5, .int 0, .int 0, .int 0, .int 0, .long 0, .int (-1), .int 0, .int 0, .ref a6, .int 0, .ref a7, .ref a8, .int 0, .ref a9, .ref a10, .int 0, .int 0, .ref a11, .ref a12, .int 0, .ref a13, .ref a14, .int 0, .long 0, .long 0, .int 0, .int 0, .int 0, .int 0, .int 0, .ref a15, .int 0, .int 0, .ref a16, .int 0, .ref a17, .ref a18, .ref a19, .int 0, .ref a20, .ref a21, .long 0, .ref a22, .int 0])), (a1, .inl (G.2 0, 7, .inl (fun _ => 0)))] s.heap := hP
  have hl := lv_entry ([.ref a0, .int (-1)]) (n := 2) (Nat.le_of_ble_eq_true rfl)
  rw [lg_entry_eq]
  generalize (lg_sl ([.ref a0, .int (-1)]) ++ List.replicate (2 - (lg_sl ([.ref a0, .int (-1)])).length) Slot.unset).toArray = ls at hl ⊢
  have hl : lv_has ls 2 [(0, .ref a0), (1, .int (-1))] := hl
  refine lv_aload_n hx hb dX12_tell_0 rfl (lv_at hl 0 rfl) ?_
  refine lv_iload_n hx hb dX12_tell_1 rfl (lv_at hl 1 rfl) ?_
  refine lv_if_ge (tgt := 9) hx hb dX12_tell_2 (by decide) (fun c_1 => ?_) (fun c_1 => ?_)
  ·
    exact absurd c_1 (by decide)
  ·
    refine lv_iload_n hx hb dX12_tell_5 rfl (lv_at hl 1 rfl) ?_
    refine lv_goto (tgt := 10) hx hb dX12_tell_6 (by decide) ?_
    refine va_put (D := G.1) (ci := 12) (v := .int (-1)) (ty := .int) (C := RX12) (T := TX12) (N := 52) hx hb hts inG_X12 tyX12 tyX12_ok nmX12 hown hK hP hD hS 0 rfl rfl 1 (by decide) (hts _ fl_X12_110) (fun _ h9 => h9) rfl (by decide +kernel) rfl rfl (Nat.le_of_ble_eq_true rfl) dX12_tell_10 (fun H locs hP hD hS => ?_)
    have hP : va_P G.1 vwCl [(a0, .inr (12, [.int 0, .int (-1), .ref a1, .ref a2, .ref a3, .ref a4, .int 0, .ref a5, .int 0, .int 0, .int 0, .int 0, .long 0, .int (-1), .int 0, .int 0, .ref a6, .int 0, .ref a7, .ref a8, .int 0, .ref a9, .ref a10, .int 0, .int 0, .ref a11, .ref a12, .int 0, .ref a13, .ref a14, .int 0, .long 0, .long 0, .int 0, .int 0, .int 0, .int 0, .int 0, .ref a15, .int 0, .int 0, .ref a16, .int 0, .ref a17, .ref a18, .ref a19, .int 0, .ref a20, .ref a21, .long 0, .ref a22, .int 0])), (a1, .inl (G.2 0, 7, .inl (fun _ => 0)))] H := hP
    have hD : va_D A [(a0, .inr (12, [.int 0, .int (-1), .ref a1, .ref a2, .ref a3, .ref a4, .int 0, .ref a5, .int 0, .int 0, .int 0, .int 0, .long 0, .int (-1), .int 0, .int 0, .ref a6, .int 0, .ref a7, .ref a8, .int 0, .ref a9, .ref a10, .int 0, .int 0, .ref a11, .ref a12, .int 0, .ref a13, .ref a14, .int 0, .long 0, .long 0, .int 0, .int 0, .int 0, .int 0, .int 0, .ref a15, .int 0, .int 0, .ref a16, .int 0, .ref a17, .ref a18, .ref a19, .int 0, .ref a20, .ref a21, .long 0, .ref a22, .int 0])), (a1, .inl (G.2 0, 7, .inl (fun _ => 0)))] := hD
    refine lv_aload_n hx hb dX12_tell_13 rfl (lv_at hl 0 rfl) ?_
    refine lv_aload_n hx hb dX12_tell_14 rfl (lv_at hl 0 rfl) ?_
    refine va_get (D := G.1) (ci := 12) (v := .int 0) (C := RX12) (T := TX12) (N := 52) hx hb hts inG_X12 hown hK hP 0 rfl rfl 42 (by decide) (hts _ fl_X12_113) (fun _ h9 => h9) rfl dX12_tell_15 ?_
    refine lv_if_eq (tgt := 29) hx hb dX12_tell_18 (by decide) (fun c_2 => ?_) (fun c_2 => ?_)
    ·
      refine lv_iconst (v := 0) hx hb dX12_tell_29 (by decide) ?_
      refine va_put (D := G.1) (ci := 12) (v := .int 0) (ty := .boolean) (C := RX12) (T := TX12) (N := 52) hx hb hts inG_X12 tyX12 tyX12_ok nmX12 hown hK hP hD hS 0 rfl rfl 42 (by decide) (hts _ fl_X12_113) (fun _ h9 => h9) rfl (by decide +kernel) rfl rfl (Nat.le_of_ble_eq_true rfl) dX12_tell_30 (fun H locs hP hD hS => ?_)
      have hP : va_P G.1 vwCl [(a0, .inr (12, [.int 0, .int (-1), .ref a1, .ref a2, .ref a3, .ref a4, .int 0, .ref a5, .int 0, .int 0, .int 0, .int 0, .long 0, .int (-1), .int 0, .int 0, .ref a6, .int 0, .ref a7, .ref a8, .int 0, .ref a9, .ref a10, .int 0, .int 0, .ref a11, .ref a12, .int 0, .ref a13, .ref a14, .int 0, .long 0, .long 0, .int 0, .int 0, .int 0, .int 0, .int 0, .ref a15, .int 0, .int 0, .ref a16, .int 0, .ref a17, .ref a18, .ref a19, .int 0, .ref a20, .ref a21, .long 0, .ref a22, .int 0])), (a1, .inl (G.2 0, 7, .inl (fun _ => 0)))] H := hP
      have hD : va_D A [(a0, .inr (12, [.int 0, .int (-1), .ref a1, .ref a2, .ref a3, .ref a4, .int 0, .ref a5, .int 0, .int 0, .int 0, .int 0, .long 0, .int (-1), .int 0, .int 0, .ref a6, .int 0, .ref a7, .ref a8, .int 0, .ref a9, .ref a10, .int 0, .int 0, .ref a11, .ref a12, .int 0, .ref a13, .ref a14, .int 0, .long 0, .long 0, .int 0, .int 0, .int 0, .int 0, .int 0, .ref a15, .int 0, .int 0, .ref a16, .int 0, .ref a17, .ref a18, .ref a19, .int 0, .ref a20, .ref a21, .long 0, .ref a22, .int 0])), (a1, .inl (G.2 0, 7, .inl (fun _ => 0)))] := hD
      refine lv_iload_n hx hb dX12_tell_33 rfl (lv_at hl 1 rfl) ?_
      refine lv_if_ge (tgt := 48) hx hb dX12_tell_34 (by decide) (fun c_3 => ?_) (fun c_3 => ?_)
      ·
        exact absurd c_3 (by decide)
      ·
        refine lv_aload_n hx hb dX12_tell_37 rfl (lv_at hl 0 rfl) ?_
        refine va_get (D := G.1) (ci := 12) (v := .ref a1) (C := RX12) (T := TX12) (N := 52) hx hb hts inG_X12 hown hK hP 0 rfl rfl 2 (by decide) (hts _ fl_X12_7) (fun _ h9 => h9) rfl dX12_tell_38 ?_
        refine lv_iload_n hx hb dX12_tell_41 rfl (lv_at hl 1 rfl) ?_
        refine lv_ineg hx hb dX12_tell_42 ?_
        refine g5_ti (v := 1) (by decide) ?_
        refine lv_dup2_11 hx hb dX12_tell_43 rfl rfl ?_
        refine va_iald hx hb hK hP 1 0 rfl rfl (i := 1) (by unfold vp_in; decide) dX12_tell_44 ?_
        refine g5_ti (v := 0) rfl ?_
        refine lv_iconst (v := 1) hx hb dX12_tell_45 (by decide) ?_
        refine lv_iadd hx hb dX12_tell_46 ?_
        refine g5_ti (v := 1) (by decide) ?_
        refine va_iast hx hb hK hP hD hS 1 0 rfl rfl (i := 1) (x := 1) (by unfold vp_in; decide) dX12_tell_47 (fun H locs hP hD hS => ?_)
        have hP : va_P G.1 vwCl [(a0, .inr (12, [.int 0, .int (-1), .ref a1, .ref a2, .ref a3, .ref a4, .int 0, .ref a5, .int 0, .int 0, .int 0, .int 0, .long 0, .int (-1), .int 0, .int 0, .ref a6, .int 0, .ref a7, .ref a8, .int 0, .ref a9, .ref a10, .int 0, .int 0, .ref a11, .ref a12, .int 0, .ref a13, .ref a14, .int 0, .long 0, .long 0, .int 0, .int 0, .int 0, .int 0, .int 0, .ref a15, .int 0, .int 0, .ref a16, .int 0, .ref a17, .ref a18, .ref a19, .int 0, .ref a20, .ref a21, .long 0, .ref a22, .int 0])), (a1, .inl (G.2 0, 7, .inl (upd (fun _ => 0) 1 1)))] H := hP
        have hD : va_D A [(a0, .inr (12, [.int 0, .int (-1), .ref a1, .ref a2, .ref a3, .ref a4, .int 0, .ref a5, .int 0, .int 0, .int 0, .int 0, .long 0, .int (-1), .int 0, .int 0, .ref a6, .int 0, .ref a7, .ref a8, .int 0, .ref a9, .ref a10, .int 0, .int 0, .ref a11, .ref a12, .int 0, .ref a13, .ref a14, .int 0, .long 0, .long 0, .int 0, .int 0, .int 0, .int 0, .int 0, .ref a15, .int 0, .int 0, .ref a16, .int 0, .ref a17, .ref a18, .ref a19, .int 0, .ref a20, .ref a21, .long 0, .ref a22, .int 0])), (a1, .inl (G.2 0, 7, .inl (upd (fun _ => 0) 1 1)))] := hD
        refine lv_iload_n hx hb dX12_tell_48 rfl (lv_at hl 1 rfl) ?_
        exact W.iret (v := (-1)) hx hb hr (fun t ht hW => ⟨⟨(-1), [(a0, .inr (12, [.int 0, .int (-1), .ref a1, .ref a2, .ref a3, .ref a4, .int 0, .ref a5, .int 0, .int 0, .int 0, .int 0, .long 0, .int (-1), .int 0, .int 0, .ref a6, .int 0, .ref a7, .ref a8, .int 0, .ref a9, .ref a10, .int 0, .int 0, .ref a11, .ref a12, .int 0, .ref a13, .ref a14, .int 0, .long 0, .long 0, .int 0, .int 0, .int 0, .int 0, .int 0, .ref a15, .int 0, .int 0, .ref a16, .int 0, .ref a17, .ref a18, .ref a19, .int 0, .ref a20, .ref a21, .long 0, .ref a22, .int 0])), (a1, .inl (G.2 0, 7, .inl (upd (fun _ => 0) 1 1)))], rfl, ⟨rfl, rfl⟩, by rw [ht]; exact hP, hD⟩, hS.F ht⟩) hS.2.2 dX12_tell_49
    ·
      exact absurd c_2 (by decide)
theorem ml_X12_125 : Cond.methodLink RX12 125 yX12_tell ∈ tblG := tg 1367 (by decide +kernel) (by decide +kernel)
theorem im_X12_tell : Cond.instanceMethod yX12_tell ∈ tblG := tg 1369 (by decide +kernel) (by decide +kernel)
theorem se_X12_tell : Cond.selects RX12 yX12_tell yX12_tell ∈ tblG := tg 29 (by decide +kernel) (by decide +kernel)
theorem cd_X12_tell : Cond.code yX12_tell cX12_tell 2 (some .int) ∈ tblG := tg 1370 (by decide +kernel) (by decide +kernel)
theorem gW_X12_tell : GoodIn tblG (wsG yX12_tell cX12_tell 2 (some .int)) := tgi cd_X12_tell
theorem gV_X12_125 : GoodIn tblG (wsV RX12 125 RX12 yX12_tell (wsG yX12_tell cX12_tell 2 (some .int))) := tgV ml_X12_125 im_X12_tell se_X12_tell ini_X12 gW_X12_tell
theorem hv_X12_tell : yX12_tell.cls = RX12 ∧ yX12_tell.cls ≠ "java/lang/invoke/MethodHandle" ∧ yX12_tell.cls ≠ "java/lang/invoke/VarHandle" ∧ (parseMethodDescriptor yX12_tell.desc).map (fun d => d.parameters.length) = some 1 := by decide +kernel
set_option maxHeartbeats 4000000 in
set_option maxRecDepth 100000 in
theorem kX12_tell_2 (l : Launch) (G : g5_G) (a0 a1 a2 a3 a4 a5 a6 a7 a8 a9 a10 a11 a12 a13 a14 a15 a16 a17 a18 a19 a20 a21 a22 : Nat) (sz : Nat) : Met l yX12_tell (wsG yX12_tell cX12_tell 2 (some .int)) ({ frames := 0, cells := 0, slots := 0, locals := 0 }) (va_Pc [.ref a0, .int 0] (g5_P G [(a0, .inr (12, [.int 0, .int 0, .ref a1, .ref a2, .ref a3, .ref a4, .int 0, .ref a5, .int 0, .int 0, .int 0, .int 0, .long 0, .int (-1), .int 0, .int 0, .ref a6, .int 0, .ref a7, .ref a8, .int 0, .ref a9, .ref a10, .int 0, .int 0, .ref a11, .ref a12, .int 0, .ref a13, .ref a14, .int 0, .long 0, .long 0, .int 0, .int 0, .int 0, .int 0, .int 0, .ref a15, .int 0, .int 0, .ref a16, .int 0, .ref a17, .ref a18, .ref a19, .int 0, .ref a20, .ref a21, .long 0, .ref a22, .int 0]))] sz)) (va_Qi (fun (r : Int32) (u : va_W) => ((r = 0) ∧ (u = [(a0, .inr (12, [.int 0, .int 0, .ref a1, .ref a2, .ref a3, .ref a4, .int 0, .ref a5, .int 0, .int 0, .int 0, .int 0, .long 0, .int (-1), .int 0, .int 0, .ref a6, .int 0, .ref a7, .ref a8, .int 0, .ref a9, .ref a10, .int 0, .int 0, .ref a11, .ref a12, .int 0, .ref a13, .ref a14, .int 0, .long 0, .long 0, .int 0, .int 0, .int 0, .int 0, .int 0, .ref a15, .int 0, .int 0, .ref a16, .int 0, .ref a17, .ref a18, .ref a19, .int 0, .ref a20, .ref a21, .long 0, .ref a22, .int 0]))]))) (g5_B G (va_A [(a0, .inr (12, [.int 0, .int 0, .ref a1, .ref a2, .ref a3, .ref a4, .int 0, .ref a5, .int 0, .int 0, .int 0, .int 0, .long 0, .int (-1), .int 0, .int 0, .ref a6, .int 0, .ref a7, .ref a8, .int 0, .ref a9, .ref a10, .int 0, .int 0, .ref a11, .ref a12, .int 0, .ref a13, .ref a14, .int 0, .long 0, .long 0, .int 0, .int 0, .int 0, .int 0, .int 0, .ref a15, .int 0, .int 0, .ref a16, .int 0, .ref a17, .ref a18, .ref a19, .int 0, .ref a20, .ref a21, .long 0, .ref a22, .int 0]))] sz)) (va_A [(a0, .inr (12, [.int 0, .int 0, .ref a1, .ref a2, .ref a3, .ref a4, .int 0, .ref a5, .int 0, .int 0, .int 0, .int 0, .long 0, .int (-1), .int 0, .int 0, .ref a6, .int 0, .ref a7, .ref a8, .int 0, .ref a9, .ref a10, .int 0, .int 0, .ref a11, .ref a12, .int 0, .ref a13, .ref a14, .int 0, .long 0, .long 0, .int 0, .int 0, .int 0, .int 0, .int 0, .ref a15, .int 0, .int 0, .ref a16, .int 0, .ref a17, .ref a18, .ref a19, .int 0, .ref a20, .ref a21, .long 0, .ref a22, .int 0]))] sz)) 0 0 (va_A [(a0, .inr (12, [.int 0, .int 0, .ref a1, .ref a2, .ref a3, .ref a4, .int 0, .ref a5, .int 0, .int 0, .int 0, .int 0, .long 0, .int (-1), .int 0, .int 0, .ref a6, .int 0, .ref a7, .ref a8, .int 0, .ref a9, .ref a10, .int 0, .int 0, .ref a11, .ref a12, .int 0, .ref a13, .ref a14, .int 0, .long 0, .long 0, .int 0, .int 0, .int 0, .int 0, .int 0, .ref a15, .int 0, .int 0, .ref a16, .int 0, .ref a17, .ref a18, .ref a19, .int 0, .ref a20, .ref a21, .long 0, .ref a22, .int 0]))] sz) := by
  refine Met.ofW (cc := cX12_tell) (maxL := 2) (ret := (some .int)) (by decide) rfl ?_
  intro p e s m args below meth c s₁ B hml hv
  obtain ⟨rfl, hsz, hP, hK, hD0, hN, hT⟩ := hv
  have hx := B.exec
  have hb := B.bytes
  have hr := B.returns
  have hts : ∀ w ∈ tblG, w.before _ s = true := fun w h => atoms_spec (ws := (wsG yX12_tell cX12_tell 2 (some .int))) B.pre w (List.mem_cons_of_mem _ h)
  have hown : s.vm.findClass RX12 = some m.cls := findClass_of_methodNamed B.named
  have hlocks := B.notSynchronized
  subst hsz
  have hD := hD0.self (sz := s.heap.size)
  generalize hAe : va_A [(a0, .inr (12, [.int 0, .int 0, .ref a1, .ref a2, .ref a3, .ref a4, .int 0, .ref a5, .int 0, .int 0, .int 0, .int 0, .long 0, .int (-1), .int 0, .int 0, .ref a6, .int 0, .ref a7, .ref a8, .int 0, .ref a9, .ref a10, .int 0, .int 0, .ref a11, .ref a12, .int 0, .ref a13, .ref a14, .int 0, .long 0, .long 0, .int 0, .int 0, .int 0, .int 0, .int 0, .ref a15, .int 0, .int 0, .ref a16, .int 0, .ref a17, .ref a18, .ref a19, .int 0, .ref a20, .ref a21, .long 0, .ref a22, .int 0]))] s.heap.size = A at hD hT ⊢
  have hA : ∀ q : Nat, s.heap.size ≤ q → A q := fun q h => by rw [← hAe]; exact Or.inr h
  have hS : va_S A s.heap s.heap [] := va_S.rf
  have hP : va_P G.1 vwCl [(a0, .inr (12, [.int 0, .int 0, .ref a1, .ref a2, .ref a3, .ref a4, .int 0, .ref a5, .int 0, .int 0, .int 0, .int 0, .long 0, .int (-1), .int 0, .int 0, .ref a6, .int 0, .ref a7, .ref a8, .int 0, .ref a9, .ref a10, .int 0, .int 0, .ref a11, .ref a12, .int 0, .ref a13, .ref a14, .int 0, .long 0, .long 0, .int 0, .int 0, .int 0, .int 0, .int 0, .ref a15, .int 0, .int 0, .ref a16, .int 0, .ref a17, .ref a18, .ref a19, .int 0, .ref a20, .ref a21, .long 0, .ref a22, .int 0]))] s.heap := hP
  have hl := lv_entry ([.ref a0, .int 0]) (n := 2) (Nat.le_of_ble_eq_true rfl)
  rw [lg_entry_eq]
  generalize (lg_sl ([.ref a0, .int 0]) ++ List.replicate (2 - (lg_sl ([.ref a0, .int 0])).length) Slot.unset).toArray = ls at hl ⊢
  have hl : lv_has ls 2 [(0, .ref a0), (1, .int 0)] := hl
  refine lv_aload_n hx hb dX12_tell_0 rfl (lv_at hl 0 rfl) ?_
  refine lv_iload_n hx hb dX12_tell_1 rfl (lv_at hl 1 rfl) ?_
  refine lv_if_ge (tgt := 9) hx hb dX12_tell_2 (by decide) (fun c_1 => ?_) (fun c_1 => ?_)
  ·
    refine lv_iconst (v := 0) hx hb dX12_tell_9 (by decide) ?_
    refine va_put (D := G.1) (ci := 12) (v := .int 0) (ty := .int) (C := RX12) (T := TX12) (N := 52) hx hb hts inG_X12 tyX12 tyX12_ok nmX12 hown hK hP hD hS 0 rfl rfl 1 (by decide) (hts _ fl_X12_110) (fun _ h9 => h9) rfl (by decide +kernel) rfl rfl (Nat.le_of_ble_eq_true rfl) dX12_tell_10 (fun H locs hP hD hS => ?_)
    have hP : va_P G.1 vwCl [(a0, .inr (12, [.int 0, .int 0, .ref a1, .ref a2, .ref a3, .ref a4, .int 0, .ref a5, .int 0, .int 0, .int 0, .int 0, .long 0, .int (-1), .int 0, .int 0, .ref a6, .int 0, .ref a7, .ref a8, .int 0, .ref a9, .ref a10, .int 0, .int 0, .ref a11, .ref a12, .int 0, .ref a13, .ref a14, .int 0, .long 0, .long 0, .int 0, .int 0, .int 0, .int 0, .int 0, .ref a15, .int 0, .int 0, .ref a16, .int 0, .ref a17, .ref a18, .ref a19, .int 0, .ref a20, .ref a21, .long 0, .ref a22, .int 0]))] H := hP
    have hD : va_D A [(a0, .inr (12, [.int 0, .int 0, .ref a1, .ref a2, .ref a3, .ref a4, .int 0, .ref a5, .int 0, .int 0, .int 0, .int 0, .long 0, .int (-1), .int 0, .int 0, .ref a6, .int 0, .ref a7, .ref a8, .int 0, .ref a9, .ref a10, .int 0, .int 0, .ref a11, .ref a12, .int 0, .ref a13, .ref a14, .int 0, .long 0, .long 0, .int 0, .int 0, .int 0, .int 0, .int 0, .ref a15, .int 0, .int 0, .ref a16, .int 0, .ref a17, .ref a18, .ref a19, .int 0, .ref a20, .ref a21, .long 0, .ref a22, .int 0]))] := hD
    refine lv_aload_n hx hb dX12_tell_13 rfl (lv_at hl 0 rfl) ?_
    refine lv_aload_n hx hb dX12_tell_14 rfl (lv_at hl 0 rfl) ?_
    refine va_get (D := G.1) (ci := 12) (v := .int 0) (C := RX12) (T := TX12) (N := 52) hx hb hts inG_X12 hown hK hP 0 rfl rfl 42 (by decide) (hts _ fl_X12_113) (fun _ h9 => h9) rfl dX12_tell_15 ?_
    refine lv_if_eq (tgt := 29) hx hb dX12_tell_18 (by decide) (fun c_2 => ?_) (fun c_2 => ?_)
    ·
      refine lv_iconst (v := 0) hx hb dX12_tell_29 (by decide) ?_
      refine va_put (D := G.1) (ci := 12) (v := .int 0) (ty := .boolean) (C := RX12) (T := TX12) (N := 52) hx hb hts inG_X12 tyX12 tyX12_ok nmX12 hown hK hP hD hS 0 rfl rfl 42 (by decide) (hts _ fl_X12_113) (fun _ h9 => h9) rfl (by decide +kernel) rfl rfl (Nat.le_of_ble_eq_true rfl) dX12_tell_30 (fun H locs hP hD hS => ?_)
      have hP : va_P G.1 vwCl [(a0, .inr (12, [.int 0, .int 0, .ref a1, .ref a2, .ref a3, .ref a4, .int 0, .ref a5, .int 0, .int 0, .int 0, .int 0, .long 0, .int (-1), .int 0, .int 0, .ref a6, .int 0, .ref a7, .ref a8, .int 0, .ref a9, .ref a10, .int 0, .int 0, .ref a11, .ref a12, .int 0, .ref a13, .ref a14, .int 0, .long 0, .long 0, .int 0, .int 0, .int 0, .int 0, .int 0, .ref a15, .int 0, .int 0, .ref a16, .int 0, .ref a17, .ref a18, .ref a19, .int 0, .ref a20, .ref a21, .long 0, .ref a22, .int 0]))] H := hP
      have hD : va_D A [(a0, .inr (12, [.int 0, .int 0, .ref a1, .ref a2, .ref a3, .ref a4, .int 0, .ref a5, .int 0, .int 0, .int 0, .int 0, .long 0, .int (-1), .int 0, .int 0, .ref a6, .int 0, .ref a7, .ref a8, .int 0, .ref a9, .ref a10, .int 0, .int 0, .ref a11, .ref a12, .int 0, .ref a13, .ref a14, .int 0, .long 0, .long 0, .int 0, .int 0, .int 0, .int 0, .int 0, .ref a15, .int 0, .int 0, .ref a16, .int 0, .ref a17, .ref a18, .ref a19, .int 0, .ref a20, .ref a21, .long 0, .ref a22, .int 0]))] := hD
      refine lv_iload_n hx hb dX12_tell_33 rfl (lv_at hl 1 rfl) ?_
      refine lv_if_ge (tgt := 48) hx hb dX12_tell_34 (by decide) (fun c_3 => ?_) (fun c_3 => ?_)
      ·
        refine lv_iload_n hx hb dX12_tell_48 rfl (lv_at hl 1 rfl) ?_
        exact W.iret (v := 0) hx hb hr (fun t ht hW => ⟨⟨0, [(a0, .inr (12, [.int 0, .int 0, .ref a1, .ref a2, .ref a3, .ref a4, .int 0, .ref a5, .int 0, .int 0, .int 0, .int 0, .long 0, .int (-1), .int 0, .int 0, .ref a6, .int 0, .ref a7, .ref a8, .int 0, .ref a9, .ref a10, .int 0, .int 0, .ref a11, .ref a12, .int 0, .ref a13, .ref a14, .int 0, .long 0, .long 0, .int 0, .int 0, .int 0, .int 0, .int 0, .ref a15, .int 0, .int 0, .ref a16, .int 0, .ref a17, .ref a18, .ref a19, .int 0, .ref a20, .ref a21, .long 0, .ref a22, .int 0]))], rfl, ⟨rfl, rfl⟩, by rw [ht]; exact hP, hD⟩, hS.F ht⟩) hS.2.2 dX12_tell_49
      ·
        exact absurd c_3 (by decide)
    ·
      exact absurd c_2 (by decide)
  ·
    exact absurd c_1 (by decide)
set_option maxHeartbeats 4000000 in
set_option maxRecDepth 100000 in
theorem k_mimage (l : Launch) (G : g5_G) (a_y a_2 a_3 a_4 a_1 a_5 a_6 a_7 a_8 a_9 a_10 a_11 a_12 a_13 a_14 a_15 a_16 a_17 a_18 a_19 a_20 a_21 a_22 : Nat) (sz : Nat) (p_k : Int32) : Met l yX12_image (wsG yX12_image cX12_image 3 (some .int)) ({ frames := 1, cells := 0, slots := 0, locals := 25 }) (va_Pc [.ref a_y, .int p_k] (g5_P G [(a_y, .inr (12, [.int 0, .int 0, .ref a_1, .ref a_2, .ref a_3, .ref a_4, .int 0, .ref a_5, .int 0, .int 0, .int 0, .int 0, .long 0, .int (-1), .int 0, .int 0, .ref a_6, .int 0, .ref a_7, .ref a_8, .int 0, .ref a_9, .ref a_10, .int 0, .int 0, .ref a_11, .ref a_12, .int 0, .ref a_13, .ref a_14, .int 0, .long 0, .long 0, .int 0, .int 0, .int 0, .int 0, .int 0, .ref a_15, .int 0, .int 0, .ref a_16, .int 0, .ref a_17, .ref a_18, .ref a_19, .int 0, .ref a_20, .ref a_21, .long 0, .ref a_22, .int 0])), (a_2, .inl (G.2 0, 5740, .inl (upd (upd (upd (fun _ => 0) 3 (-1)) 4 1000) 6 (-1)))), (a_3, .inl (G.2 0, 11480, .inl (fun _ => 0))), (a_4, .inl (G.2 2, 2, .inl (fun _ => 0))), (a_1, .inl (G.2 0, 7, .inl (fun _ => 0)))] sz)) (va_Qi (fun (r : Int32) (u : va_W) => ((p_k.toInt < 0 ∨ 1 < p_k.toInt) ∧ (r = (-1)) ∧ (u = [])) ∨ ((0 ≤ p_k.toInt ∧ p_k.toInt ≤ 1) ∧ (r = 0) ∧ (u = []))) (g5_B G (va_A [(a_y, .inr (12, [.int 0, .int 0, .ref a_1, .ref a_2, .ref a_3, .ref a_4, .int 0, .ref a_5, .int 0, .int 0, .int 0, .int 0, .long 0, .int (-1), .int 0, .int 0, .ref a_6, .int 0, .ref a_7, .ref a_8, .int 0, .ref a_9, .ref a_10, .int 0, .int 0, .ref a_11, .ref a_12, .int 0, .ref a_13, .ref a_14, .int 0, .long 0, .long 0, .int 0, .int 0, .int 0, .int 0, .int 0, .ref a_15, .int 0, .int 0, .ref a_16, .int 0, .ref a_17, .ref a_18, .ref a_19, .int 0, .ref a_20, .ref a_21, .long 0, .ref a_22, .int 0])), (a_2, .inl (G.2 0, 5740, .inl (upd (upd (upd (fun _ => 0) 3 (-1)) 4 1000) 6 (-1)))), (a_3, .inl (G.2 0, 11480, .inl (fun _ => 0))), (a_4, .inl (G.2 2, 2, .inl (fun _ => 0))), (a_1, .inl (G.2 0, 7, .inl (fun _ => 0)))] sz)) (va_A [(a_y, .inr (12, [.int 0, .int 0, .ref a_1, .ref a_2, .ref a_3, .ref a_4, .int 0, .ref a_5, .int 0, .int 0, .int 0, .int 0, .long 0, .int (-1), .int 0, .int 0, .ref a_6, .int 0, .ref a_7, .ref a_8, .int 0, .ref a_9, .ref a_10, .int 0, .int 0, .ref a_11, .ref a_12, .int 0, .ref a_13, .ref a_14, .int 0, .long 0, .long 0, .int 0, .int 0, .int 0, .int 0, .int 0, .ref a_15, .int 0, .int 0, .ref a_16, .int 0, .ref a_17, .ref a_18, .ref a_19, .int 0, .ref a_20, .ref a_21, .long 0, .ref a_22, .int 0])), (a_2, .inl (G.2 0, 5740, .inl (upd (upd (upd (fun _ => 0) 3 (-1)) 4 1000) 6 (-1)))), (a_3, .inl (G.2 0, 11480, .inl (fun _ => 0))), (a_4, .inl (G.2 2, 2, .inl (fun _ => 0))), (a_1, .inl (G.2 0, 7, .inl (fun _ => 0)))] sz)) 0 0 (va_A [(a_y, .inr (12, [.int 0, .int 0, .ref a_1, .ref a_2, .ref a_3, .ref a_4, .int 0, .ref a_5, .int 0, .int 0, .int 0, .int 0, .long 0, .int (-1), .int 0, .int 0, .ref a_6, .int 0, .ref a_7, .ref a_8, .int 0, .ref a_9, .ref a_10, .int 0, .int 0, .ref a_11, .ref a_12, .int 0, .ref a_13, .ref a_14, .int 0, .long 0, .long 0, .int 0, .int 0, .int 0, .int 0, .int 0, .ref a_15, .int 0, .int 0, .ref a_16, .int 0, .ref a_17, .ref a_18, .ref a_19, .int 0, .ref a_20, .ref a_21, .long 0, .ref a_22, .int 0])), (a_2, .inl (G.2 0, 5740, .inl (upd (upd (upd (fun _ => 0) 3 (-1)) 4 1000) 6 (-1)))), (a_3, .inl (G.2 0, 11480, .inl (fun _ => 0))), (a_4, .inl (G.2 2, 2, .inl (fun _ => 0))), (a_1, .inl (G.2 0, 7, .inl (fun _ => 0)))] sz) := by
  refine Met.ofW (cc := cX12_image) (maxL := 3) (ret := (some .int)) (by decide) rfl ?_
  intro p e s m args below meth c s₁ B hml hv
  obtain ⟨rfl, hsz, hP, hK, hD0, hN, hT⟩ := hv
  have hx := B.exec
  have hb := B.bytes
  have hr := B.returns
  have hts : ∀ w ∈ tblG, w.before _ s = true := fun w h => atoms_spec (ws := (wsG yX12_image cX12_image 3 (some .int))) B.pre w (List.mem_cons_of_mem _ h)
  have hown : s.vm.findClass RX12 = some m.cls := findClass_of_methodNamed B.named
  have hlocks := B.notSynchronized
  subst hsz
  have hD := hD0.self (sz := s.heap.size)
  generalize hAe : va_A [(a_y, .inr (12, [.int 0, .int 0, .ref a_1, .ref a_2, .ref a_3, .ref a_4, .int 0, .ref a_5, .int 0, .int 0, .int 0, .int 0, .long 0, .int (-1), .int 0, .int 0, .ref a_6, .int 0, .ref a_7, .ref a_8, .int 0, .ref a_9, .ref a_10, .int 0, .int 0, .ref a_11, .ref a_12, .int 0, .ref a_13, .ref a_14, .int 0, .long 0, .long 0, .int 0, .int 0, .int 0, .int 0, .int 0, .ref a_15, .int 0, .int 0, .ref a_16, .int 0, .ref a_17, .ref a_18, .ref a_19, .int 0, .ref a_20, .ref a_21, .long 0, .ref a_22, .int 0])), (a_2, .inl (G.2 0, 5740, .inl (upd (upd (upd (fun _ => 0) 3 (-1)) 4 1000) 6 (-1)))), (a_3, .inl (G.2 0, 11480, .inl (fun _ => 0))), (a_4, .inl (G.2 2, 2, .inl (fun _ => 0))), (a_1, .inl (G.2 0, 7, .inl (fun _ => 0)))] s.heap.size = A at hD hT ⊢
  have hA : ∀ q : Nat, s.heap.size ≤ q → A q := fun q h => by rw [← hAe]; exact Or.inr h
  have hS : va_S A s.heap s.heap [] := va_S.rf
  have hP : va_P G.1 vwCl [(a_y, .inr (12, [.int 0, .int 0, .ref a_1, .ref a_2, .ref a_3, .ref a_4, .int 0, .ref a_5, .int 0, .int 0, .int 0, .int 0, .long 0, .int (-1), .int 0, .int 0, .ref a_6, .int 0, .ref a_7, .ref a_8, .int 0, .ref a_9, .ref a_10, .int 0, .int 0, .ref a_11, .ref a_12, .int 0, .ref a_13, .ref a_14, .int 0, .long 0, .long 0, .int 0, .int 0, .int 0, .int 0, .int 0, .ref a_15, .int 0, .int 0, .ref a_16, .int 0, .ref a_17, .ref a_18, .ref a_19, .int 0, .ref a_20, .ref a_21, .long 0, .ref a_22, .int 0])), (a_2, .inl (G.2 0, 5740, .inl (upd (upd (upd (fun _ => 0) 3 (-1)) 4 1000) 6 (-1)))), (a_3, .inl (G.2 0, 11480, .inl (fun _ => 0))), (a_4, .inl (G.2 2, 2, .inl (fun _ => 0))), (a_1, .inl (G.2 0, 7, .inl (fun _ => 0)))] s.heap := hP
  have hl := lv_entry ([.ref a_y, .int p_k]) (n := 3) (Nat.le_of_ble_eq_true rfl)
  rw [lg_entry_eq]
  generalize (lg_sl ([.ref a_y, .int p_k]) ++ List.replicate (3 - (lg_sl ([.ref a_y, .int p_k])).length) Slot.unset).toArray = ls at hl ⊢
  have hl : lv_has ls 3 [(0, .ref a_y), (1, .int p_k)] := hl
  refine lv_aload_n hx hb dX12_image_0 rfl (lv_at hl 0 rfl) ?_
  refine lv_iconst (v := 0) hx hb dX12_image_1 (by decide) ?_
  refine va_put (D := G.1) (ci := 12) (v := .int 0) (ty := .int) (C := RX12) (T := TX12) (N := 52) hx hb hts inG_X12 tyX12 tyX12_ok nmX12 hown hK hP hD hS 0 rfl rfl 0 (by decide) (hts _ fl_X12_107) (fun _ h9 => h9) rfl (by decide +kernel) rfl rfl (Nat.le_of_ble_eq_true rfl) dX12_image_2 (fun H locs hP hD hS => ?_)
  have hP : va_P G.1 vwCl [(a_y, .inr (12, [.int 0, .int 0, .ref a_1, .ref a_2, .ref a_3, .ref a_4, .int 0, .ref a_5, .int 0, .int 0, .int 0, .int 0, .long 0, .int (-1), .int 0, .int 0, .ref a_6, .int 0, .ref a_7, .ref a_8, .int 0, .ref a_9, .ref a_10, .int 0, .int 0, .ref a_11, .ref a_12, .int 0, .ref a_13, .ref a_14, .int 0, .long 0, .long 0, .int 0, .int 0, .int 0, .int 0, .int 0, .ref a_15, .int 0, .int 0, .ref a_16, .int 0, .ref a_17, .ref a_18, .ref a_19, .int 0, .ref a_20, .ref a_21, .long 0, .ref a_22, .int 0])), (a_2, .inl (G.2 0, 5740, .inl (upd (upd (upd (fun _ => 0) 3 (-1)) 4 1000) 6 (-1)))), (a_3, .inl (G.2 0, 11480, .inl (fun _ => 0))), (a_4, .inl (G.2 2, 2, .inl (fun _ => 0))), (a_1, .inl (G.2 0, 7, .inl (fun _ => 0)))] H := hP
  have hD : va_D A [(a_y, .inr (12, [.int 0, .int 0, .ref a_1, .ref a_2, .ref a_3, .ref a_4, .int 0, .ref a_5, .int 0, .int 0, .int 0, .int 0, .long 0, .int (-1), .int 0, .int 0, .ref a_6, .int 0, .ref a_7, .ref a_8, .int 0, .ref a_9, .ref a_10, .int 0, .int 0, .ref a_11, .ref a_12, .int 0, .ref a_13, .ref a_14, .int 0, .long 0, .long 0, .int 0, .int 0, .int 0, .int 0, .int 0, .ref a_15, .int 0, .int 0, .ref a_16, .int 0, .ref a_17, .ref a_18, .ref a_19, .int 0, .ref a_20, .ref a_21, .long 0, .ref a_22, .int 0])), (a_2, .inl (G.2 0, 5740, .inl (upd (upd (upd (fun _ => 0) 3 (-1)) 4 1000) 6 (-1)))), (a_3, .inl (G.2 0, 11480, .inl (fun _ => 0))), (a_4, .inl (G.2 2, 2, .inl (fun _ => 0))), (a_1, .inl (G.2 0, 7, .inl (fun _ => 0)))] := hD
  refine lv_iload_n hx hb dX12_image_5 rfl (lv_at hl 1 rfl) ?_
  refine lv_i2l (v := p_k.toInt64) hx hb dX12_image_6 rfl ?_
  refine lv_lconst (v := 0) hx hb dX12_image_7 (by decide) ?_
  refine lv_lconst (v := 1) hx hb dX12_image_8 (by decide) ?_
  have hPc := hP.sub (ws' := []) [] rfl
  have hDc := hD.sub (ws' := []) [] (by decide) rfl
  have hFc := va_free (wc := []) hD hS hA [] rfl
  refine va_calli (va_runS (As := [.long p_k.toInt64, .long 0, .long 1]) (rest := []) ⟨hx, hb, hml, hown, hts⟩ (k_in_0_1 l G H.size p_k) (va_cwS 3 hts gS_X12_121 rfl rfl rfl hs_X12_in ⟨Nat.le_of_ble_eq_true rfl, Nat.le_of_ble_eq_true rfl⟩) (g5_preS hPc hK hDc hN hT hS hFc) rfl rfl hl.1 rfl (lv_room (Nat.le_of_ble_eq_true rfl)) dX12_image_9 ⟨Nat.le_of_ble_eq_true rfl, Nat.le_of_ble_eq_true rfl⟩) hS (fun q _ h => hFc q h) hFc (fun r u t H1 locs ht hvm hw hB hz1 hk1 hS => ?_)
  obtain ⟨hP1, hD1⟩ := hB
  rw [ht] at hP1
  rcases hw with ⟨i_1, rfl, rfl⟩ | ⟨i_2, rfl, rfl⟩
  ·
    have i_1 : p_k.toInt < 0 ∨ 1 < p_k.toInt := i_1
    have hP := g5_same hP hk1
    generalize H1 = H at hP hS ⊢
    refine lv_if_ne (tgt := 21) hx hb dX12_image_12 (by decide) (fun c_3 => ?_) (fun c_3 => ?_)
    ·
      exact absurd c_3 (by decide)
    ·
      refine lv_aload_n hx hb dX12_image_15 rfl (lv_at hl 0 rfl) ?_
      refine lv_iconst (v := (-1)) hx hb dX12_image_16 (by decide) ?_
      have hPc := hP.sub (ws' := [(a_y, .inr (12, [.int 0, .int 0, .ref a_1, .ref a_2, .ref a_3, .ref a_4, .int 0, .ref a_5, .int 0, .int 0, .int 0, .int 0, .long 0, .int (-1), .int 0, .int 0, .ref a_6, .int 0, .ref a_7, .ref a_8, .int 0, .ref a_9, .ref a_10, .int 0, .int 0, .ref a_11, .ref a_12, .int 0, .ref a_13, .ref a_14, .int 0, .long 0, .long 0, .int 0, .int 0, .int 0, .int 0, .int 0, .ref a_15, .int 0, .int 0, .ref a_16, .int 0, .ref a_17, .ref a_18, .ref a_19, .int 0, .ref a_20, .ref a_21, .long 0, .ref a_22, .int 0])), (a_1, .inl (G.2 0, 7, .inl (fun _ => 0)))]) [0, 4] rfl
      have hDc := hD.sub (ws' := [(a_y, .inr (12, [.int 0, .int 0, .ref a_1, .ref a_2, .ref a_3, .ref a_4, .int 0, .ref a_5, .int 0, .int 0, .int 0, .int 0, .long 0, .int (-1), .int 0, .int 0, .ref a_6, .int 0, .ref a_7, .ref a_8, .int 0, .ref a_9, .ref a_10, .int 0, .int 0, .ref a_11, .ref a_12, .int 0, .ref a_13, .ref a_14, .int 0, .long 0, .long 0, .int 0, .int 0, .int 0, .int 0, .int 0, .ref a_15, .int 0, .int 0, .ref a_16, .int 0, .ref a_17, .ref a_18, .ref a_19, .int 0, .ref a_20, .ref a_21, .long 0, .ref a_22, .int 0])), (a_1, .inl (G.2 0, 7, .inl (fun _ => 0)))]) [0, 4] (by decide) rfl
      have hFc := va_free (wc := [(a_y, .inr (12, [.int 0, .int 0, .ref a_1, .ref a_2, .ref a_3, .ref a_4, .int 0, .ref a_5, .int 0, .int 0, .int 0, .int 0, .long 0, .int (-1), .int 0, .int 0, .ref a_6, .int 0, .ref a_7, .ref a_8, .int 0, .ref a_9, .ref a_10, .int 0, .int 0, .ref a_11, .ref a_12, .int 0, .ref a_13, .ref a_14, .int 0, .long 0, .long 0, .int 0, .int 0, .int 0, .int 0, .int 0, .ref a_15, .int 0, .int 0, .ref a_16, .int 0, .ref a_17, .ref a_18, .ref a_19, .int 0, .ref a_20, .ref a_21, .long 0, .ref a_22, .int 0])), (a_1, .inl (G.2 0, 7, .inl (fun _ => 0)))]) hD hS hA [0, 4] rfl
      refine va_calli (va_runV (As := [.int (-1)]) (rest := []) ⟨hx, hb, hml, hown, hts⟩ (kX12_tell l G a_y a_1 a_2 a_3 a_4 a_5 a_6 a_7 a_8 a_9 a_10 a_11 a_12 a_13 a_14 a_15 a_16 a_17 a_18 a_19 a_20 a_21 a_22 H.size) (cwV 1 hts gV_X12_125 rfl rfl rfl hv_X12_tell ⟨Nat.le_of_ble_eq_true rfl, Nat.le_of_ble_eq_true rfl⟩) (g5_preV hPc hK hDc hN hT hS hFc (ci := 12) (q0 := 0) rfl rfl) rfl rfl hl.1 rfl (lv_room (Nat.le_of_ble_eq_true rfl)) dX12_image_17 ⟨Nat.le_of_ble_eq_true rfl, Nat.le_of_ble_eq_true rfl⟩) hS (fun q _ h => hFc q h) hFc (fun r u t H1 locs ht hvm hw hB hz1 hk1 hS => ?_)
      obtain ⟨hP1, hD1⟩ := hB
      rw [ht] at hP1
      obtain ⟨rfl, rfl⟩ := hw
      obtain ⟨hP, hD⟩ := va_join (wr := [(a_2, .inl (G.2 0, 5740, .inl (upd (upd (upd (fun _ => 0) 3 (-1)) 4 1000) 6 (-1)))), (a_3, .inl (G.2 0, 11480, .inl (fun _ => 0))), (a_4, .inl (G.2 2, 2, .inl (fun _ => 0)))]) (w1 := [(a_y, .inr (12, [.int 0, .int (-1), .ref a_1, .ref a_2, .ref a_3, .ref a_4, .int 0, .ref a_5, .int 0, .int 0, .int 0, .int 0, .long 0, .int (-1), .int 0, .int 0, .ref a_6, .int 0, .ref a_7, .ref a_8, .int 0, .ref a_9, .ref a_10, .int 0, .int 0, .ref a_11, .ref a_12, .int 0, .ref a_13, .ref a_14, .int 0, .long 0, .long 0, .int 0, .int 0, .int 0, .int 0, .int 0, .ref a_15, .int 0, .int 0, .ref a_16, .int 0, .ref a_17, .ref a_18, .ref a_19, .int 0, .ref a_20, .ref a_21, .long 0, .ref a_22, .int 0])), (a_1, .inl (G.2 0, 7, .inl (upd (fun _ => 0) 1 1)))]) hP hD [0, 4] [1, 2, 3] rfl rfl (by decide) (by decide) hk1 hFc hP1 hD1
      generalize H1 = H at hP hS ⊢
      have hP : va_P G.1 vwCl [(a_2, .inl (G.2 0, 5740, .inl (upd (upd (upd (fun _ => 0) 3 (-1)) 4 1000) 6 (-1)))), (a_3, .inl (G.2 0, 11480, .inl (fun _ => 0))), (a_4, .inl (G.2 2, 2, .inl (fun _ => 0))), (a_y, .inr (12, [.int 0, .int (-1), .ref a_1, .ref a_2, .ref a_3, .ref a_4, .int 0, .ref a_5, .int 0, .int 0, .int 0, .int 0, .long 0, .int (-1), .int 0, .int 0, .ref a_6, .int 0, .ref a_7, .ref a_8, .int 0, .ref a_9, .ref a_10, .int 0, .int 0, .ref a_11, .ref a_12, .int 0, .ref a_13, .ref a_14, .int 0, .long 0, .long 0, .int 0, .int 0, .int 0, .int 0, .int 0, .ref a_15, .int 0, .int 0, .ref a_16, .int 0, .ref a_17, .ref a_18, .ref a_19, .int 0, .ref a_20, .ref a_21, .long 0, .ref a_22, .int 0])), (a_1, .inl (G.2 0, 7, .inl (upd (fun _ => 0) 1 1)))] H := hP
      have hD : va_D A [(a_2, .inl (G.2 0, 5740, .inl (upd (upd (upd (fun _ => 0) 3 (-1)) 4 1000) 6 (-1)))), (a_3, .inl (G.2 0, 11480, .inl (fun _ => 0))), (a_4, .inl (G.2 2, 2, .inl (fun _ => 0))), (a_y, .inr (12, [.int 0, .int (-1), .ref a_1, .ref a_2, .ref a_3, .ref a_4, .int 0, .ref a_5, .int 0, .int 0, .int 0, .int 0, .long 0, .int (-1), .int 0, .int 0, .ref a_6, .int 0, .ref a_7, .ref a_8, .int 0, .ref a_9, .ref a_10, .int 0, .int 0, .ref a_11, .ref a_12, .int 0, .ref a_13, .ref a_14, .int 0, .long 0, .long 0, .int 0, .int 0, .int 0, .int 0, .int 0, .ref a_15, .int 0, .int 0, .ref a_16, .int 0, .ref a_17, .ref a_18, .ref a_19, .int 0, .ref a_20, .ref a_21, .long 0, .ref a_22, .int 0])), (a_1, .inl (G.2 0, 7, .inl (upd (fun _ => 0) 1 1)))] := hD
      exact W.iret (v := (-1)) hx hb hr (fun t ht hW => ⟨⟨(-1), [], rfl, Or.inl (⟨by omega, rfl, rfl⟩), by rw [ht]; exact hP.sub [] rfl, hD.sub [] (by decide) rfl⟩, hS.F ht⟩) hS.2.2 dX12_image_20
  ·
    have i_2 : 0 ≤ p_k.toInt ∧ p_k.toInt ≤ 1 := i_2
    have hP := g5_same hP hk1
    generalize H1 = H at hP hS ⊢
    refine lv_if_ne (tgt := 21) hx hb dX12_image_12 (by decide) (fun c_4 => ?_) (fun c_4 => ?_)
    ·
      refine lv_iconst (v := 0) hx hb dX12_image_21 (by decide) ?_
      refine lv_istore_n (lv' := [(2, .int 0), (0, .ref a_y), (1, .int p_k)]) hx hb dX12_image_22 rfl hl (by decide) rfl (fun ls hl => ?_)
      refine g5_loop (α := (Int32) × (Nat → Int32)) (fun (q : (Int32) × (Nat → Int32)) (ls : Array Slot) (H : Heap) (locs : List Loc) => match q with | (k_i, k_f) => lv_has ls 3 [(2, .int k_i), (0, .ref a_y), (1, .int p_k)] ∧ va_P G.1 vwCl [(a_y, .inr (12, [.int 0, .int 0, .ref a_1, .ref a_2, .ref a_3, .ref a_4, .int 0, .ref a_5, .int 0, .int 0, .int 0, .int 0, .long 0, .int (-1), .int 0, .int 0, .ref a_6, .int 0, .ref a_7, .ref a_8, .int 0, .ref a_9, .ref a_10, .int 0, .int 0, .ref a_11, .ref a_12, .int 0, .ref a_13, .ref a_14, .int 0, .long 0, .long 0, .int 0, .int 0, .int 0, .int 0, .int 0, .ref a_15, .int 0, .int 0, .ref a_16, .int 0, .ref a_17, .ref a_18, .ref a_19, .int 0, .ref a_20, .ref a_21, .long 0, .ref a_22, .int 0])), (a_2, .inl (G.2 0, 5740, .inl (upd (upd (upd (fun _ => 0) 3 (-1)) 4 1000) 6 (-1)))), (a_3, .inl (G.2 0, 11480, .inl k_f)), (a_4, .inl (G.2 2, 2, .inl (fun _ => 0))), (a_1, .inl (G.2 0, 7, .inl (fun _ => 0)))] H ∧ va_D A [(a_y, .inr (12, [.int 0, .int 0, .ref a_1, .ref a_2, .ref a_3, .ref a_4, .int 0, .ref a_5, .int 0, .int 0, .int 0, .int 0, .long 0, .int (-1), .int 0, .int 0, .ref a_6, .int 0, .ref a_7, .ref a_8, .int 0, .ref a_9, .ref a_10, .int 0, .int 0, .ref a_11, .ref a_12, .int 0, .ref a_13, .ref a_14, .int 0, .long 0, .long 0, .int 0, .int 0, .int 0, .int 0, .int 0, .ref a_15, .int 0, .int 0, .ref a_16, .int 0, .ref a_17, .ref a_18, .ref a_19, .int 0, .ref a_20, .ref a_21, .long 0, .ref a_22, .int 0])), (a_2, .inl (G.2 0, 5740, .inl (upd (upd (upd (fun _ => 0) 3 (-1)) 4 1000) 6 (-1)))), (a_3, .inl (G.2 0, 11480, .inl k_f)), (a_4, .inl (G.2 2, 2, .inl (fun _ => 0))), (a_1, .inl (G.2 0, 7, .inl (fun _ => 0)))] ∧ va_S A s.heap H locs ∧ (0 ≤ k_i.toInt ∧ k_i.toInt ≤ 5740)) (fun (q : (Int32) × (Nat → Int32)) => match q with | (k_i, k_f) => Int.toNat (5740 - k_i.toInt)) (0, (fun _ => 0)) ⟨lv_sub hl [0, 1, 2] rfl, hP, hD, hS, ⟨by decide, by decide⟩⟩ ?_
      rintro ⟨k_i, k_f⟩ ls H locs ⟨hl, hP, hD, hS, i_5⟩ ih_23_6
      have hl : lv_has ls 3 [(2, .int k_i), (0, .ref a_y), (1, .int p_k)] := hl
      have i_5 : 0 ≤ k_i.toInt ∧ k_i.toInt ≤ 5740 := i_5
      have hP : va_P G.1 vwCl [(a_y, .inr (12, [.int 0, .int 0, .ref a_1, .ref a_2, .ref a_3, .ref a_4, .int 0, .ref a_5, .int 0, .int 0, .int 0, .int 0, .long 0, .int (-1), .int 0, .int 0, .ref a_6, .int 0, .ref a_7, .ref a_8, .int 0, .ref a_9, .ref a_10, .int 0, .int 0, .ref a_11, .ref a_12, .int 0, .ref a_13, .ref a_14, .int 0, .long 0, .long 0, .int 0, .int 0, .int 0, .int 0, .int 0, .ref a_15, .int 0, .int 0, .ref a_16, .int 0, .ref a_17, .ref a_18, .ref a_19, .int 0, .ref a_20, .ref a_21, .long 0, .ref a_22, .int 0])), (a_2, .inl (G.2 0, 5740, .inl (upd (upd (upd (fun _ => 0) 3 (-1)) 4 1000) 6 (-1)))), (a_3, .inl (G.2 0, 11480, .inl k_f)), (a_4, .inl (G.2 2, 2, .inl (fun _ => 0))), (a_1, .inl (G.2 0, 7, .inl (fun _ => 0)))] H := hP
      have hD : va_D A [(a_y, .inr (12, [.int 0, .int 0, .ref a_1, .ref a_2, .ref a_3, .ref a_4, .int 0, .ref a_5, .int 0, .int 0, .int 0, .int 0, .long 0, .int (-1), .int 0, .int 0, .ref a_6, .int 0, .ref a_7, .ref a_8, .int 0, .ref a_9, .ref a_10, .int 0, .int 0, .ref a_11, .ref a_12, .int 0, .ref a_13, .ref a_14, .int 0, .long 0, .long 0, .int 0, .int 0, .int 0, .int 0, .int 0, .ref a_15, .int 0, .int 0, .ref a_16, .int 0, .ref a_17, .ref a_18, .ref a_19, .int 0, .ref a_20, .ref a_21, .long 0, .ref a_22, .int 0])), (a_2, .inl (G.2 0, 5740, .inl (upd (upd (upd (fun _ => 0) 3 (-1)) 4 1000) 6 (-1)))), (a_3, .inl (G.2 0, 11480, .inl k_f)), (a_4, .inl (G.2 2, 2, .inl (fun _ => 0))), (a_1, .inl (G.2 0, 7, .inl (fun _ => 0)))] := hD
      refine lv_iload_n hx hb dX12_image_23 rfl (lv_at hl 0 rfl) ?_
      refine lv_sipush (v := 5740) hx hb dX12_image_24 (by decide) ?_
      refine lv_icmp_ge (tgt := 54) hx hb dX12_image_27 (by decide) (fun c_7 => ?_) (fun c_7 => ?_)
      ·
        have i_7 : k_i.toInt ≥ 5740 := by have z := g5_ge (a := k_i.toInt) (b := 5740) (by rfl) (by decide) c_7; omega
        refine lv_aload_n hx hb dX12_image_54 rfl (lv_at hl 1 rfl) ?_
        refine va_get (D := G.1) (ci := 12) (v := .ref a_4) (C := RX12) (T := TX12) (N := 52) hx hb hts inG_X12 hown hK hP 0 rfl rfl 5 (by decide) (hts _ fl_X12_19) (fun _ h9 => h9) rfl dX12_image_55 ?_
        refine lv_iload_n hx hb dX12_image_58 rfl (lv_at hl 2 rfl) ?_
        refine lv_iconst (v := 1) hx hb dX12_image_59 (by decide) ?_
        refine va_zast hx hb hK hP hD hS 3 2 rfl rfl (i := p_k) (x := 1) (vp_in_iff.mpr ⟨by omega, by omega⟩) dX12_image_60 (fun H locs hP hD hS => ?_)
        have hP : va_P G.1 vwCl [(a_y, .inr (12, [.int 0, .int 0, .ref a_1, .ref a_2, .ref a_3, .ref a_4, .int 0, .ref a_5, .int 0, .int 0, .int 0, .int 0, .long 0, .int (-1), .int 0, .int 0, .ref a_6, .int 0, .ref a_7, .ref a_8, .int 0, .ref a_9, .ref a_10, .int 0, .int 0, .ref a_11, .ref a_12, .int 0, .ref a_13, .ref a_14, .int 0, .long 0, .long 0, .int 0, .int 0, .int 0, .int 0, .int 0, .ref a_15, .int 0, .int 0, .ref a_16, .int 0, .ref a_17, .ref a_18, .ref a_19, .int 0, .ref a_20, .ref a_21, .long 0, .ref a_22, .int 0])), (a_2, .inl (G.2 0, 5740, .inl (upd (upd (upd (fun _ => 0) 3 (-1)) 4 1000) 6 (-1)))), (a_3, .inl (G.2 0, 11480, .inl k_f)), (a_4, .inl (G.2 2, 2, .inl (upd (fun _ => 0) p_k.toNatClampNeg 1))), (a_1, .inl (G.2 0, 7, .inl (fun _ => 0)))] H := hP
        have hD : va_D A [(a_y, .inr (12, [.int 0, .int 0, .ref a_1, .ref a_2, .ref a_3, .ref a_4, .int 0, .ref a_5, .int 0, .int 0, .int 0, .int 0, .long 0, .int (-1), .int 0, .int 0, .ref a_6, .int 0, .ref a_7, .ref a_8, .int 0, .ref a_9, .ref a_10, .int 0, .int 0, .ref a_11, .ref a_12, .int 0, .ref a_13, .ref a_14, .int 0, .long 0, .long 0, .int 0, .int 0, .int 0, .int 0, .int 0, .ref a_15, .int 0, .int 0, .ref a_16, .int 0, .ref a_17, .ref a_18, .ref a_19, .int 0, .ref a_20, .ref a_21, .long 0, .ref a_22, .int 0])), (a_2, .inl (G.2 0, 5740, .inl (upd (upd (upd (fun _ => 0) 3 (-1)) 4 1000) 6 (-1)))), (a_3, .inl (G.2 0, 11480, .inl k_f)), (a_4, .inl (G.2 2, 2, .inl (upd (fun _ => 0) p_k.toNatClampNeg 1))), (a_1, .inl (G.2 0, 7, .inl (fun _ => 0)))] := hD
        refine lv_aload_n hx hb dX12_image_61 rfl (lv_at hl 1 rfl) ?_
        refine lv_iconst (v := 0) hx hb dX12_image_62 (by decide) ?_
        have hPc := hP.sub (ws' := [(a_y, .inr (12, [.int 0, .int 0, .ref a_1, .ref a_2, .ref a_3, .ref a_4, .int 0, .ref a_5, .int 0, .int 0, .int 0, .int 0, .long 0, .int (-1), .int 0, .int 0, .ref a_6, .int 0, .ref a_7, .ref a_8, .int 0, .ref a_9, .ref a_10, .int 0, .int 0, .ref a_11, .ref a_12, .int 0, .ref a_13, .ref a_14, .int 0, .long 0, .long 0, .int 0, .int 0, .int 0, .int 0, .int 0, .ref a_15, .int 0, .int 0, .ref a_16, .int 0, .ref a_17, .ref a_18, .ref a_19, .int 0, .ref a_20, .ref a_21, .long 0, .ref a_22, .int 0]))]) [0] rfl
        have hDc := hD.sub (ws' := [(a_y, .inr (12, [.int 0, .int 0, .ref a_1, .ref a_2, .ref a_3, .ref a_4, .int 0, .ref a_5, .int 0, .int 0, .int 0, .int 0, .long 0, .int (-1), .int 0, .int 0, .ref a_6, .int 0, .ref a_7, .ref a_8, .int 0, .ref a_9, .ref a_10, .int 0, .int 0, .ref a_11, .ref a_12, .int 0, .ref a_13, .ref a_14, .int 0, .long 0, .long 0, .int 0, .int 0, .int 0, .int 0, .int 0, .ref a_15, .int 0, .int 0, .ref a_16, .int 0, .ref a_17, .ref a_18, .ref a_19, .int 0, .ref a_20, .ref a_21, .long 0, .ref a_22, .int 0]))]) [0] (by decide) rfl
        have hFc := va_free (wc := [(a_y, .inr (12, [.int 0, .int 0, .ref a_1, .ref a_2, .ref a_3, .ref a_4, .int 0, .ref a_5, .int 0, .int 0, .int 0, .int 0, .long 0, .int (-1), .int 0, .int 0, .ref a_6, .int 0, .ref a_7, .ref a_8, .int 0, .ref a_9, .ref a_10, .int 0, .int 0, .ref a_11, .ref a_12, .int 0, .ref a_13, .ref a_14, .int 0, .long 0, .long 0, .int 0, .int 0, .int 0, .int 0, .int 0, .ref a_15, .int 0, .int 0, .ref a_16, .int 0, .ref a_17, .ref a_18, .ref a_19, .int 0, .ref a_20, .ref a_21, .long 0, .ref a_22, .int 0]))]) hD hS hA [0] rfl
        refine va_calli (va_runV (As := [.int 0]) (rest := []) ⟨hx, hb, hml, hown, hts⟩ (kX12_tell_2 l G a_y a_1 a_2 a_3 a_4 a_5 a_6 a_7 a_8 a_9 a_10 a_11 a_12 a_13 a_14 a_15 a_16 a_17 a_18 a_19 a_20 a_21 a_22 H.size) (cwV 1 hts gV_X12_125 rfl rfl rfl hv_X12_tell ⟨Nat.le_of_ble_eq_true rfl, Nat.le_of_ble_eq_true rfl⟩) (g5_preV hPc hK hDc hN hT hS hFc (ci := 12) (q0 := 0) rfl rfl) rfl rfl hl.1 rfl (lv_room (Nat.le_of_ble_eq_true rfl)) dX12_image_63 ⟨Nat.le_of_ble_eq_true rfl, Nat.le_of_ble_eq_true rfl⟩) hS (fun q _ h => hFc q h) hFc (fun r u t H1 locs ht hvm hw hB hz1 hk1 hS => ?_)
        obtain ⟨hP1, hD1⟩ := hB
        rw [ht] at hP1
        obtain ⟨rfl, rfl⟩ := hw
        obtain ⟨hP, hD⟩ := va_join (wr := [(a_2, .inl (G.2 0, 5740, .inl (upd (upd (upd (fun _ => 0) 3 (-1)) 4 1000) 6 (-1)))), (a_3, .inl (G.2 0, 11480, .inl k_f)), (a_4, .inl (G.2 2, 2, .inl (upd (fun _ => 0) p_k.toNatClampNeg 1))), (a_1, .inl (G.2 0, 7, .inl (fun _ => 0)))]) (w1 := [(a_y, .inr (12, [.int 0, .int 0, .ref a_1, .ref a_2, .ref a_3, .ref a_4, .int 0, .ref a_5, .int 0, .int 0, .int 0, .int 0, .long 0, .int (-1), .int 0, .int 0, .ref a_6, .int 0, .ref a_7, .ref a_8, .int 0, .ref a_9, .ref a_10, .int 0, .int 0, .ref a_11, .ref a_12, .int 0, .ref a_13, .ref a_14, .int 0, .long 0, .long 0, .int 0, .int 0, .int 0, .int 0, .int 0, .ref a_15, .int 0, .int 0, .ref a_16, .int 0, .ref a_17, .ref a_18, .ref a_19, .int 0, .ref a_20, .ref a_21, .long 0, .ref a_22, .int 0]))]) hP hD [0] [1, 2, 3, 4] rfl rfl (by decide) (by decide) hk1 hFc hP1 hD1
        generalize H1 = H at hP hS ⊢
        have hP : va_P G.1 vwCl [(a_2, .inl (G.2 0, 5740, .inl (upd (upd (upd (fun _ => 0) 3 (-1)) 4 1000) 6 (-1)))), (a_3, .inl (G.2 0, 11480, .inl k_f)), (a_4, .inl (G.2 2, 2, .inl (upd (fun _ => 0) p_k.toNatClampNeg 1))), (a_1, .inl (G.2 0, 7, .inl (fun _ => 0))), (a_y, .inr (12, [.int 0, .int 0, .ref a_1, .ref a_2, .ref a_3, .ref a_4, .int 0, .ref a_5, .int 0, .int 0, .int 0, .int 0, .long 0, .int (-1), .int 0, .int 0, .ref a_6, .int 0, .ref a_7, .ref a_8, .int 0, .ref a_9, .ref a_10, .int 0, .int 0, .ref a_11, .ref a_12, .int 0, .ref a_13, .ref a_14, .int 0, .long 0, .long 0, .int 0, .int 0, .int 0, .int 0, .int 0, .ref a_15, .int 0, .int 0, .ref a_16, .int 0, .ref a_17, .ref a_18, .ref a_19, .int 0, .ref a_20, .ref a_21, .long 0, .ref a_22, .int 0]))] H := hP
        have hD : va_D A [(a_2, .inl (G.2 0, 5740, .inl (upd (upd (upd (fun _ => 0) 3 (-1)) 4 1000) 6 (-1)))), (a_3, .inl (G.2 0, 11480, .inl k_f)), (a_4, .inl (G.2 2, 2, .inl (upd (fun _ => 0) p_k.toNatClampNeg 1))), (a_1, .inl (G.2 0, 7, .inl (fun _ => 0))), (a_y, .inr (12, [.int 0, .int 0, .ref a_1, .ref a_2, .ref a_3, .ref a_4, .int 0, .ref a_5, .int 0, .int 0, .int 0, .int 0, .long 0, .int (-1), .int 0, .int 0, .ref a_6, .int 0, .ref a_7, .ref a_8, .int 0, .ref a_9, .ref a_10, .int 0, .int 0, .ref a_11, .ref a_12, .int 0, .ref a_13, .ref a_14, .int 0, .long 0, .long 0, .int 0, .int 0, .int 0, .int 0, .int 0, .ref a_15, .int 0, .int 0, .ref a_16, .int 0, .ref a_17, .ref a_18, .ref a_19, .int 0, .ref a_20, .ref a_21, .long 0, .ref a_22, .int 0]))] := hD
        exact W.iret (v := 0) hx hb hr (fun t ht hW => ⟨⟨0, [], rfl, Or.inr (⟨by omega, rfl, rfl⟩), by rw [ht]; exact hP.sub [] rfl, hD.sub [] (by decide) rfl⟩, hS.F ht⟩) hS.2.2 dX12_image_66
      ·
        have i_7 : k_i.toInt < 5740 := by have z := g5_geN (a := k_i.toInt) (b := 5740) (by rfl) (by decide) c_7; omega
        refine lv_aload_n hx hb dX12_image_30 rfl (lv_at hl 1 rfl) ?_
        refine va_get (D := G.1) (ci := 12) (v := .ref a_3) (C := RX12) (T := TX12) (N := 52) hx hb hts inG_X12 hown hK hP 0 rfl rfl 4 (by decide) (hts _ fl_X12_16) (fun _ h9 => h9) rfl dX12_image_31 ?_
        refine lv_sipush (v := 5740) hx hb dX12_image_34 (by decide) ?_
        refine lv_iload_n hx hb dX12_image_37 rfl (lv_at hl 2 rfl) ?_
        refine lv_imul hx hb dX12_image_38 ?_
        have t_8 : (5740 * p_k).toInt = 5740 * p_k.toInt := g5_imul (a := 5740) (b := p_k.toInt) (by decide) (by rfl) (by omega) (by omega)
        refine lv_iload_n hx hb dX12_image_39 rfl (lv_at hl 0 rfl) ?_
        refine lv_iadd hx hb dX12_image_40 ?_
        have t_9 : ((5740 * p_k) + k_i).toInt = (5740 * p_k).toInt + k_i.toInt := g5_iadd (a := (5740 * p_k).toInt) (b := k_i.toInt) (by rfl) (by rfl) (by omega) (by omega)
        refine lv_aload_n hx hb dX12_image_41 rfl (lv_at hl 1 rfl) ?_
        refine va_get (D := G.1) (ci := 12) (v := .ref a_2) (C := RX12) (T := TX12) (N := 52) hx hb hts inG_X12 hown hK hP 0 rfl rfl 3 (by decide) (hts _ fl_X12_13) (fun _ h9 => h9) rfl dX12_image_42 ?_
        refine lv_iload_n hx hb dX12_image_45 rfl (lv_at hl 0 rfl) ?_
        refine va_iald hx hb hK hP 1 0 rfl rfl (i := k_i) (vp_in_iff.mpr ⟨by omega, by omega⟩) dX12_image_46 ?_
        refine va_iast hx hb hK hP hD hS 2 0 rfl rfl (i := ((5740 * p_k) + k_i)) (x := ((upd (upd (upd (fun _ => 0) 3 (-1)) 4 1000) 6 (-1)) k_i.toNatClampNeg)) (vp_in_iff.mpr ⟨by omega, by omega⟩) dX12_image_47 (fun H locs hP hD hS => ?_)
        have hP : va_P G.1 vwCl [(a_y, .inr (12, [.int 0, .int 0, .ref a_1, .ref a_2, .ref a_3, .ref a_4, .int 0, .ref a_5, .int 0, .int 0, .int 0, .int 0, .long 0, .int (-1), .int 0, .int 0, .ref a_6, .int 0, .ref a_7, .ref a_8, .int 0, .ref a_9, .ref a_10, .int 0, .int 0, .ref a_11, .ref a_12, .int 0, .ref a_13, .ref a_14, .int 0, .long 0, .long 0, .int 0, .int 0, .int 0, .int 0, .int 0, .ref a_15, .int 0, .int 0, .ref a_16, .int 0, .ref a_17, .ref a_18, .ref a_19, .int 0, .ref a_20, .ref a_21, .long 0, .ref a_22, .int 0])), (a_2, .inl (G.2 0, 5740, .inl (upd (upd (upd (fun _ => 0) 3 (-1)) 4 1000) 6 (-1)))), (a_3, .inl (G.2 0, 11480, .inl (upd k_f ((5740 * p_k) + k_i).toNatClampNeg ((upd (upd (upd (fun _ => 0) 3 (-1)) 4 1000) 6 (-1)) k_i.toNatClampNeg)))), (a_4, .inl (G.2 2, 2, .inl (fun _ => 0))), (a_1, .inl (G.2 0, 7, .inl (fun _ => 0)))] H := hP
        have hD : va_D A [(a_y, .inr (12, [.int 0, .int 0, .ref a_1, .ref a_2, .ref a_3, .ref a_4, .int 0, .ref a_5, .int 0, .int 0, .int 0, .int 0, .long 0, .int (-1), .int 0, .int 0, .ref a_6, .int 0, .ref a_7, .ref a_8, .int 0, .ref a_9, .ref a_10, .int 0, .int 0, .ref a_11, .ref a_12, .int 0, .ref a_13, .ref a_14, .int 0, .long 0, .long 0, .int 0, .int 0, .int 0, .int 0, .int 0, .ref a_15, .int 0, .int 0, .ref a_16, .int 0, .ref a_17, .ref a_18, .ref a_19, .int 0, .ref a_20, .ref a_21, .long 0, .ref a_22, .int 0])), (a_2, .inl (G.2 0, 5740, .inl (upd (upd (upd (fun _ => 0) 3 (-1)) 4 1000) 6 (-1)))), (a_3, .inl (G.2 0, 11480, .inl (upd k_f ((5740 * p_k) + k_i).toNatClampNeg ((upd (upd (upd (fun _ => 0) 3 (-1)) 4 1000) 6 (-1)) k_i.toNatClampNeg)))), (a_4, .inl (G.2 2, 2, .inl (fun _ => 0))), (a_1, .inl (G.2 0, 7, .inl (fun _ => 0)))] := hD
        refine lv_iinc (v := (k_i + 1)) (lv' := [(2, .int (k_i + 1)), (0, .ref a_y), (1, .int p_k)]) hx hb dX12_image_48 hl (k := 0) rfl rfl (by decide) rfl (fun ls hl => ?_)
        have t_10 : (k_i + 1).toInt = k_i.toInt + 1 := g5_iadd (a := k_i.toInt) (b := 1) rfl (by decide) (by omega) (by omega)
        refine lv_goto (tgt := 23) hx hb dX12_image_51 (by decide) ?_
        exact ih_23_6 ((k_i + 1), (upd k_f ((5740 * p_k) + k_i).toNatClampNeg ((upd (upd (upd (fun _ => 0) 3 (-1)) 4 1000) 6 (-1)) k_i.toNatClampNeg))) ls H locs (show Int.toNat (5740 - (k_i + 1).toInt) < Int.toNat (5740 - k_i.toInt) by omega) ⟨lv_sub hl [0, 1, 2] rfl, hP, hD, hS, ⟨by omega, by omega⟩⟩
    ·
      exact absurd c_4 (by decide)
theorem dX12_wander_0 : decode cX12_wander 0 = .ok (.aload_n 0, 1) := by decide +kernel
theorem dX12_wander_1 : decode cX12_wander 1 = .ok (.iconst 0, 1) := by decide +kernel
theorem dX12_wander_2 : decode cX12_wander 2 = .ok (.putfield 107, 3) := by decide +kernel
theorem dX12_wander_5 : decode cX12_wander 5 = .ok (.iload_n 1, 1) := by decide +kernel
theorem dX12_wander_6 : decode cX12_wander 6 = .ok (.i2l, 1) := by decide +kernel
theorem dX12_wander_7 : decode cX12_wander 7 = .ok (.lconst 0, 1) := by decide +kernel
theorem dX12_wander_8 : decode cX12_wander 8 = .ok (.ldc2_w 190, 3) := by decide +kernel
theorem dX12_wander_11 : decode cX12_wander 11 = .ok (.invokestatic 121, 3) := by decide +kernel
theorem dX12_wander_14 : decode cX12_wander 14 = .ok (.ifCond .eq 10, 3) := by decide +kernel
theorem dX12_wander_17 : decode cX12_wander 17 = .ok (.iload_n 2, 1) := by decide +kernel
theorem dX12_wander_18 : decode cX12_wander 18 = .ok (.invokestatic 138, 3) := by decide +kernel
theorem dX12_wander_21 : decode cX12_wander 21 = .ok (.ifCond .ne 9, 3) := by decide +kernel
theorem dX12_wander_24 : decode cX12_wander 24 = .ok (.aload_n 0, 1) := by decide +kernel
theorem dX12_wander_25 : decode cX12_wander 25 = .ok (.iconst (-1), 1) := by decide +kernel
theorem dX12_wander_26 : decode cX12_wander 26 = .ok (.invokevirtual 125, 3) := by decide +kernel
theorem dX12_wander_29 : decode cX12_wander 29 = .ok (.ireturn, 1) := by decide +kernel
theorem dX12_wander_30 : decode cX12_wander 30 = .ok (.aload_n 0, 1) := by decide +kernel
theorem dX12_wander_31 : decode cX12_wander 31 = .ok (.iload_n 2, 1) := by decide +kernel
theorem dX12_wander_32 : decode cX12_wander 32 = .ok (.invokevirtual 160, 3) := by decide +kernel
theorem dX12_wander_35 : decode cX12_wander 35 = .ok (.ifCond .eq 10, 3) := by decide +kernel
theorem dX12_wander_38 : decode cX12_wander 38 = .ok (.aload_n 0, 1) := by decide +kernel
theorem dX12_wander_39 : decode cX12_wander 39 = .ok (.bipush (-3), 2) := by decide +kernel
theorem dX12_wander_41 : decode cX12_wander 41 = .ok (.invokevirtual 125, 3) := by decide +kernel
theorem dX12_wander_44 : decode cX12_wander 44 = .ok (.ireturn, 1) := by decide +kernel
theorem dX12_wander_45 : decode cX12_wander 45 = .ok (.aload_n 0, 1) := by decide +kernel
theorem dX12_wander_46 : decode cX12_wander 46 = .ok (.iload_n 1, 1) := by decide +kernel
theorem dX12_wander_47 : decode cX12_wander 47 = .ok (.i2l, 1) := by decide +kernel
theorem dX12_wander_48 : decode cX12_wander 48 = .ok (.putfield 469, 3) := by decide +kernel
theorem dX12_wander_51 : decode cX12_wander 51 = .ok (.iload_n 2, 1) := by decide +kernel
theorem dX12_wander_52 : decode cX12_wander 52 = .ok (.istore_n 3, 1) := by decide +kernel
theorem dX12_wander_53 : decode cX12_wander 53 = .ok (.iconst 0, 1) := by decide +kernel
theorem dX12_wander_54 : decode cX12_wander 54 = .ok (.istore 4, 2) := by decide +kernel
theorem dX12_wander_56 : decode cX12_wander 56 = .ok (.iload 4, 2) := by decide +kernel
theorem dX12_wander_58 : decode cX12_wander 58 = .ok (.bipush 24, 2) := by decide +kernel
theorem dX12_wander_60 : decode cX12_wander 60 = .ok (.if_icmp .ge 102, 3) := by decide +kernel
theorem dX12_wander_63 : decode cX12_wander 63 = .ok (.iload 4, 2) := by decide +kernel
theorem dX12_wander_65 : decode cX12_wander 65 = .ok (.ifCond .le 83, 3) := by decide +kernel
theorem dX12_wander_68 : decode cX12_wander 68 = .ok (.aload_n 0, 1) := by decide +kernel
theorem dX12_wander_69 : decode cX12_wander 69 = .ok (.aload_n 0, 1) := by decide +kernel
theorem dX12_wander_70 : decode cX12_wander 70 = .ok (.getfield 469, 3) := by decide +kernel
theorem dX12_wander_73 : decode cX12_wander 73 = .ok (.ldc2_w 472, 3) := by decide +kernel
theorem dX12_wander_76 : decode cX12_wander 76 = .ok (.lmul, 1) := by decide +kernel
theorem dX12_wander_77 : decode cX12_wander 77 = .ok (.ldc2_w 474, 3) := by decide +kernel
theorem dX12_wander_80 : decode cX12_wander 80 = .ok (.ladd, 1) := by decide +kernel
theorem dX12_wander_81 : decode cX12_wander 81 = .ok (.ldc2_w 476, 3) := by decide +kernel
theorem dX12_wander_84 : decode cX12_wander 84 = .ok (.lrem, 1) := by decide +kernel
theorem dX12_wander_85 : decode cX12_wander 85 = .ok (.putfield 469, 3) := by decide +kernel
theorem dX12_wander_88 : decode cX12_wander 88 = .ok (.aload_n 0, 1) := by decide +kernel
theorem dX12_wander_89 : decode cX12_wander 89 = .ok (.getfield 469, 3) := by decide +kernel
theorem dX12_wander_92 : decode cX12_wander 92 = .ok (.ldc2_w 154, 3) := by decide +kernel
theorem dX12_wander_95 : decode cX12_wander 95 = .ok (.lrem, 1) := by decide +kernel
theorem dX12_wander_96 : decode cX12_wander 96 = .ok (.l2i, 1) := by decide +kernel
theorem dX12_wander_97 : decode cX12_wander 97 = .ok (.istore 5, 2) := by decide +kernel
theorem dX12_wander_99 : decode cX12_wander 99 = .ok (.iload 5, 2) := by decide +kernel
theorem dX12_wander_101 : decode cX12_wander 101 = .ok (.iconst 4, 1) := by decide +kernel
theorem dX12_wander_102 : decode cX12_wander 102 = .ok (.if_icmp .ne 7, 3) := by decide +kernel
theorem dX12_wander_105 : decode cX12_wander 105 = .ok (.iload_n 3, 1) := by decide +kernel
theorem dX12_wander_106 : decode cX12_wander 106 = .ok (.goto 9, 3) := by decide +kernel
theorem dX12_wander_109 : decode cX12_wander 109 = .ok (.iload_n 3, 1) := by decide +kernel
theorem dX12_wander_110 : decode cX12_wander 110 = .ok (.iload 5, 2) := by decide +kernel
theorem dX12_wander_112 : decode cX12_wander 112 = .ok (.invokestatic 374, 3) := by decide +kernel
theorem dX12_wander_115 : decode cX12_wander 115 = .ok (.istore 6, 2) := by decide +kernel
theorem dX12_wander_117 : decode cX12_wander 117 = .ok (.iload 6, 2) := by decide +kernel
theorem dX12_wander_119 : decode cX12_wander 119 = .ok (.iconst (-1), 1) := by decide +kernel
theorem dX12_wander_120 : decode cX12_wander 120 = .ok (.if_icmp .eq 26, 3) := by decide +kernel
theorem dX12_wander_123 : decode cX12_wander 123 = .ok (.aload_n 0, 1) := by decide +kernel
theorem dX12_wander_124 : decode cX12_wander 124 = .ok (.iload 6, 2) := by decide +kernel
theorem dX12_wander_126 : decode cX12_wander 126 = .ok (.ifCond .ge 7, 3) := by decide +kernel
theorem dX12_wander_129 : decode cX12_wander 129 = .ok (.iconst 0, 1) := by decide +kernel
theorem dX12_wander_130 : decode cX12_wander 130 = .ok (.goto 5, 3) := by decide +kernel
theorem dX12_wander_133 : decode cX12_wander 133 = .ok (.iload 6, 2) := by decide +kernel
theorem dX12_wander_135 : decode cX12_wander 135 = .ok (.invokevirtual 160, 3) := by decide +kernel
theorem dX12_wander_138 : decode cX12_wander 138 = .ok (.ifCond .ne 8, 3) := by decide +kernel
theorem dX12_wander_141 : decode cX12_wander 141 = .ok (.iload 6, 2) := by decide +kernel
theorem dX12_wander_143 : decode cX12_wander 143 = .ok (.goto 4, 3) := by decide +kernel
theorem dX12_wander_146 : decode cX12_wander 146 = .ok (.iload_n 3, 1) := by decide +kernel
theorem dX12_wander_147 : decode cX12_wander 147 = .ok (.istore_n 3, 1) := by decide +kernel
theorem dX12_wander_148 : decode cX12_wander 148 = .ok (.aload_n 0, 1) := by decide +kernel
theorem dX12_wander_149 : decode cX12_wander 149 = .ok (.getfield 104, 3) := by decide +kernel
theorem dX12_wander_152 : decode cX12_wander 152 = .ok (.iload 4, 2) := by decide +kernel
theorem dX12_wander_154 : decode cX12_wander 154 = .ok (.iload_n 3, 1) := by decide +kernel
theorem dX12_wander_155 : decode cX12_wander 155 = .ok (.iastore, 1) := by decide +kernel
theorem dX12_wander_156 : decode cX12_wander 156 = .ok (.iinc 4 1, 3) := by decide +kernel
theorem dX12_wander_159 : decode cX12_wander 159 = .ok (.goto (-103), 3) := by decide +kernel
theorem dX12_wander_162 : decode cX12_wander 162 = .ok (.aload_n 0, 1) := by decide +kernel
theorem dX12_wander_163 : decode cX12_wander 163 = .ok (.iconst 1, 1) := by decide +kernel
theorem dX12_wander_164 : decode cX12_wander 164 = .ok (.putfield 478, 3) := by decide +kernel
theorem dX12_wander_167 : decode cX12_wander 167 = .ok (.aload_n 0, 1) := by decide +kernel
theorem dX12_wander_168 : decode cX12_wander 168 = .ok (.invokevirtual 419, 3) := by decide +kernel
theorem dX12_wander_171 : decode cX12_wander 171 = .ok (.iconst 0, 1) := by decide +kernel
theorem dX12_wander_172 : decode cX12_wander 172 = .ok (.istore 4, 2) := by decide +kernel
theorem dX12_wander_174 : decode cX12_wander 174 = .ok (.iconst 0, 1) := by decide +kernel
theorem dX12_wander_175 : decode cX12_wander 175 = .ok (.istore 5, 2) := by decide +kernel
theorem dX12_wander_177 : decode cX12_wander 177 = .ok (.iload 5, 2) := by decide +kernel
theorem dX12_wander_179 : decode cX12_wander 179 = .ok (.bipush 24, 2) := by decide +kernel
theorem dX12_wander_181 : decode cX12_wander 181 = .ok (.if_icmp .ge 40, 3) := by decide +kernel
theorem dX12_wander_184 : decode cX12_wander 184 = .ok (.iload 4, 2) := by decide +kernel
theorem dX12_wander_186 : decode cX12_wander 186 = .ok (.aload_n 0, 1) := by decide +kernel
theorem dX12_wander_187 : decode cX12_wander 187 = .ok (.getfield 85, 3) := by decide +kernel
theorem dX12_wander_190 : decode cX12_wander 190 = .ok (.bipush 64, 2) := by decide +kernel
theorem dX12_wander_192 : decode cX12_wander 192 = .ok (.iload 5, 2) := by decide +kernel
theorem dX12_wander_194 : decode cX12_wander 194 = .ok (.imul, 1) := by decide +kernel
theorem dX12_wander_195 : decode cX12_wander 195 = .ok (.aload_n 0, 1) := by decide +kernel
theorem dX12_wander_196 : decode cX12_wander 196 = .ok (.getfield 104, 3) := by decide +kernel
theorem dX12_wander_199 : decode cX12_wander 199 = .ok (.iload 5, 2) := by decide +kernel
theorem dX12_wander_201 : decode cX12_wander 201 = .ok (.iaload, 1) := by decide +kernel
theorem dX12_wander_202 : decode cX12_wander 202 = .ok (.iadd, 1) := by decide +kernel
theorem dX12_wander_203 : decode cX12_wander 203 = .ok (.baload, 1) := by decide +kernel
theorem dX12_wander_204 : decode cX12_wander 204 = .ok (.ifCond .eq 7, 3) := by decide +kernel
theorem dX12_wander_207 : decode cX12_wander 207 = .ok (.iconst 1, 1) := by decide +kernel
theorem dX12_wander_208 : decode cX12_wander 208 = .ok (.goto 4, 3) := by decide +kernel
theorem dX12_wander_211 : decode cX12_wander 211 = .ok (.iconst 0, 1) := by decide +kernel
theorem dX12_wander_212 : decode cX12_wander 212 = .ok (.iadd, 1) := by decide +kernel
theorem dX12_wander_213 : decode cX12_wander 213 = .ok (.istore 4, 2) := by decide +kernel
theorem dX12_wander_215 : decode cX12_wander 215 = .ok (.iinc 5 1, 3) := by decide +kernel
theorem dX12_wander_218 : decode cX12_wander 218 = .ok (.goto (-41), 3) := by decide +kernel
theorem dX12_wander_221 : decode cX12_wander 221 = .ok (.aload_n 0, 1) := by decide +kernel
theorem dX12_wander_222 : decode cX12_wander 222 = .ok (.iload 4, 2) := by decide +kernel
theorem dX12_wander_224 : decode cX12_wander 224 = .ok (.invokevirtual 125, 3) := by decide +kernel
theorem dX12_wander_227 : decode cX12_wander 227 = .ok (.ireturn, 1) := by decide +kernel
theorem kl_X12_190 : Cond.constantLong RX12 190 1000000 ∈ tblG := tg 1471 (by decide +kernel) (by decide +kernel)
