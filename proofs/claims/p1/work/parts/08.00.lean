theorem dX12_mark_0 : decode cX12_mark 0 = .ok (.iconst 0, 1) := by decide +kernel
theorem dX12_mark_1 : decode cX12_mark 1 = .ok (.istore_n 3, 1) := by decide +kernel
theorem dX12_mark_2 : decode cX12_mark 2 = .ok (.iload_n 3, 1) := by decide +kernel
theorem dX12_mark_3 : decode cX12_mark 3 = .ok (.iconst 4, 1) := by decide +kernel
theorem dX12_mark_4 : decode cX12_mark 4 = .ok (.if_icmp .ge 48, 3) := by decide +kernel
theorem dX12_mark_7 : decode cX12_mark 7 = .ok (.aload_n 0, 1) := by decide +kernel
theorem dX12_mark_8 : decode cX12_mark 8 = .ok (.iload_n 1, 1) := by decide +kernel
theorem dX12_mark_9 : decode cX12_mark 9 = .ok (.iload_n 3, 1) := by decide +kernel
theorem dX12_mark_10 : decode cX12_mark 10 = .ok (.iload_n 2, 1) := by decide +kernel
theorem dX12_mark_11 : decode cX12_mark 11 = .ok (.iconst 0, 1) := by decide +kernel
theorem dX12_mark_12 : decode cX12_mark 12 = .ok (.invokevirtual 401, 3) := by decide +kernel
theorem dX12_mark_15 : decode cX12_mark 15 = .ok (.iconst 0, 1) := by decide +kernel
theorem dX12_mark_16 : decode cX12_mark 16 = .ok (.istore 4, 2) := by decide +kernel
theorem dX12_mark_18 : decode cX12_mark 18 = .ok (.iload 4, 2) := by decide +kernel
theorem dX12_mark_20 : decode cX12_mark 20 = .ok (.aload_n 0, 1) := by decide +kernel
theorem dX12_mark_21 : decode cX12_mark 21 = .ok (.getfield 358, 3) := by decide +kernel
theorem dX12_mark_24 : decode cX12_mark 24 = .ok (.if_icmp .ge 22, 3) := by decide +kernel
theorem dX12_mark_27 : decode cX12_mark 27 = .ok (.aload_n 0, 1) := by decide +kernel
theorem dX12_mark_28 : decode cX12_mark 28 = .ok (.getfield 85, 3) := by decide +kernel
theorem dX12_mark_31 : decode cX12_mark 31 = .ok (.aload_n 0, 1) := by decide +kernel
theorem dX12_mark_32 : decode cX12_mark 32 = .ok (.getfield 82, 3) := by decide +kernel
theorem dX12_mark_35 : decode cX12_mark 35 = .ok (.iload 4, 2) := by decide +kernel
theorem dX12_mark_37 : decode cX12_mark 37 = .ok (.iaload, 1) := by decide +kernel
theorem dX12_mark_38 : decode cX12_mark 38 = .ok (.iconst 1, 1) := by decide +kernel
theorem dX12_mark_39 : decode cX12_mark 39 = .ok (.bastore, 1) := by decide +kernel
theorem dX12_mark_40 : decode cX12_mark 40 = .ok (.iinc 4 1, 3) := by decide +kernel
theorem dX12_mark_43 : decode cX12_mark 43 = .ok (.goto (-25), 3) := by decide +kernel
theorem dX12_mark_46 : decode cX12_mark 46 = .ok (.iinc 3 1, 3) := by decide +kernel
theorem dX12_mark_49 : decode cX12_mark 49 = .ok (.goto (-47), 3) := by decide +kernel
theorem dX12_mark_52 : decode cX12_mark 52 = .ok (.return_, 1) := by decide +kernel
set_option maxHeartbeats 4000000 in
set_option maxRecDepth 100000 in
theorem k_mark (l : Launch) (G : g5_G) (a_y a_2 a_15 a_16 a_1 a_3 a_4 a_5 a_6 a_7 a_8 a_9 a_10 a_11 a_12 a_13 a_14 a_17 a_18 a_19 a_20 a_21 a_22 : Nat) (sz : Nat) (p_c : Int32) (p_h : Int32) (e_cell : Int32) (e_hour : Int32) (e_way : Int32) (e_bright : Int32) (e_points : Int32) (e_through : Int32) (e_seen : Int32) (f_p : Nat → Int32) (f_a : Nat → Int32) (h_p_c : 0 ≤ p_c.toInt ∧ p_c.toInt ≤ 63) (h_p_h : 0 ≤ p_h.toInt ∧ p_h.toInt ≤ 23) : Met l yX12_mark (wsG yX12_mark cX12_mark 5 none) ({ frames := 2, cells := 0, slots := 0, locals := 48 }) (va_Pc [.ref a_y, .int p_c, .int p_h] (g5_P G [(a_y, .inr (12, [.int 0, .int 0, .ref a_1, .ref a_2, .ref a_3, .ref a_4, .int 0, .ref a_5, .int 0, .int 0, .int 0, .int 0, .long 0, .int (-1), .int 0, .int 0, .ref a_6, .int 0, .ref a_7, .ref a_8, .int 0, .ref a_9, .ref a_10, .int 0, .int 0, .ref a_11, .ref a_12, .int 0, .ref a_13, .ref a_14, .int 0, .long 0, .long 0, .int e_cell, .int e_hour, .int e_way, .int e_bright, .int e_points, .ref a_15, .int e_through, .int e_seen, .ref a_16, .int 0, .ref a_17, .ref a_18, .ref a_19, .int 0, .ref a_20, .ref a_21, .long 0, .ref a_22, .int 0])), (a_2, .inl (G.2 0, 5740, .inl (upd (upd (upd (fun _ => 0) 3 (-1)) 4 1000) 6 (-1)))), (a_15, .inl (G.2 0, 200, .inl f_p)), (a_16, .inl (G.2 2, 1536, .inl f_a))] sz)) (va_Qv (fun (u : va_W) => (∃ (o_c : Int32) (o_n : Int32) (o_g : Nat → Int32), (0 ≤ o_c.toInt ∧ o_c.toInt ≤ 63) ∧ (0 ≤ o_n.toInt ∧ o_n.toInt ≤ 7) ∧ (o_g = ptF (ptF (ptF (ptF (f_a) p_h.toInt (gW 0 p_c.toInt) (nW 0 p_c.toInt).toNat) p_h.toInt (gW 1 p_c.toInt) (nW 1 p_c.toInt).toNat) p_h.toInt (gW 2 p_c.toInt) (nW 2 p_c.toInt).toNat) p_h.toInt (gW 3 p_c.toInt) (nW 3 p_c.toInt).toNat) ∧ (u = [(a_y, .inr (12, [.int 0, .int 0, .ref a_1, .ref a_2, .ref a_3, .ref a_4, .int 0, .ref a_5, .int 0, .int 0, .int 0, .int 0, .long 0, .int (-1), .int 0, .int 0, .ref a_6, .int 0, .ref a_7, .ref a_8, .int 0, .ref a_9, .ref a_10, .int 0, .int 0, .ref a_11, .ref a_12, .int 0, .ref a_13, .ref a_14, .int 0, .long 0, .long 0, .int o_c, .int p_h, .int 3, .int 1000000, .int o_n, .ref a_15, .int 0, .int (-1), .ref a_16, .int 0, .ref a_17, .ref a_18, .ref a_19, .int 0, .ref a_20, .ref a_21, .long 0, .ref a_22, .int 0])), (a_2, .inl (G.2 0, 5740, .inl (upd (upd (upd (fun _ => 0) 3 (-1)) 4 1000) 6 (-1)))), (a_16, .inl (G.2 2, 1536, .inl o_g))]))) (g5_B G (va_A [(a_y, .inr (12, [.int 0, .int 0, .ref a_1, .ref a_2, .ref a_3, .ref a_4, .int 0, .ref a_5, .int 0, .int 0, .int 0, .int 0, .long 0, .int (-1), .int 0, .int 0, .ref a_6, .int 0, .ref a_7, .ref a_8, .int 0, .ref a_9, .ref a_10, .int 0, .int 0, .ref a_11, .ref a_12, .int 0, .ref a_13, .ref a_14, .int 0, .long 0, .long 0, .int e_cell, .int e_hour, .int e_way, .int e_bright, .int e_points, .ref a_15, .int e_through, .int e_seen, .ref a_16, .int 0, .ref a_17, .ref a_18, .ref a_19, .int 0, .ref a_20, .ref a_21, .long 0, .ref a_22, .int 0])), (a_2, .inl (G.2 0, 5740, .inl (upd (upd (upd (fun _ => 0) 3 (-1)) 4 1000) 6 (-1)))), (a_15, .inl (G.2 0, 200, .inl f_p)), (a_16, .inl (G.2 2, 1536, .inl f_a))] sz)) (va_A [(a_y, .inr (12, [.int 0, .int 0, .ref a_1, .ref a_2, .ref a_3, .ref a_4, .int 0, .ref a_5, .int 0, .int 0, .int 0, .int 0, .long 0, .int (-1), .int 0, .int 0, .ref a_6, .int 0, .ref a_7, .ref a_8, .int 0, .ref a_9, .ref a_10, .int 0, .int 0, .ref a_11, .ref a_12, .int 0, .ref a_13, .ref a_14, .int 0, .long 0, .long 0, .int e_cell, .int e_hour, .int e_way, .int e_bright, .int e_points, .ref a_15, .int e_through, .int e_seen, .ref a_16, .int 0, .ref a_17, .ref a_18, .ref a_19, .int 0, .ref a_20, .ref a_21, .long 0, .ref a_22, .int 0])), (a_2, .inl (G.2 0, 5740, .inl (upd (upd (upd (fun _ => 0) 3 (-1)) 4 1000) 6 (-1)))), (a_15, .inl (G.2 0, 200, .inl f_p)), (a_16, .inl (G.2 2, 1536, .inl f_a))] sz)) 0 0 (va_A [(a_y, .inr (12, [.int 0, .int 0, .ref a_1, .ref a_2, .ref a_3, .ref a_4, .int 0, .ref a_5, .int 0, .int 0, .int 0, .int 0, .long 0, .int (-1), .int 0, .int 0, .ref a_6, .int 0, .ref a_7, .ref a_8, .int 0, .ref a_9, .ref a_10, .int 0, .int 0, .ref a_11, .ref a_12, .int 0, .ref a_13, .ref a_14, .int 0, .long 0, .long 0, .int e_cell, .int e_hour, .int e_way, .int e_bright, .int e_points, .ref a_15, .int e_through, .int e_seen, .ref a_16, .int 0, .ref a_17, .ref a_18, .ref a_19, .int 0, .ref a_20, .ref a_21, .long 0, .ref a_22, .int 0])), (a_2, .inl (G.2 0, 5740, .inl (upd (upd (upd (fun _ => 0) 3 (-1)) 4 1000) 6 (-1)))), (a_15, .inl (G.2 0, 200, .inl f_p)), (a_16, .inl (G.2 2, 1536, .inl f_a))] sz) := by
  refine Met.ofW (cc := cX12_mark) (maxL := 5) (ret := none) (by decide) rfl ?_
  intro p e s m args below meth c s₁ B hml hv
  obtain ⟨rfl, hsz, hP, hK, hD0, hN, hT⟩ := hv
  have hx := B.exec
  have hb := B.bytes
  have hr := B.returns
  have hts : ∀ w ∈ tblG, w.before _ s = true := fun w h => atoms_spec (ws := (wsG yX12_mark cX12_mark 5 none)) B.pre w (List.mem_cons_of_mem _ h)
  have hown : s.vm.findClass RX12 = some m.cls := findClass_of_methodNamed B.named
  have hlocks := B.notSynchronized
  subst hsz
  have hD := hD0.self (sz := s.heap.size)
  generalize hAe : va_A [(a_y, .inr (12, [.int 0, .int 0, .ref a_1, .ref a_2, .ref a_3, .ref a_4, .int 0, .ref a_5, .int 0, .int 0, .int 0, .int 0, .long 0, .int (-1), .int 0, .int 0, .ref a_6, .int 0, .ref a_7, .ref a_8, .int 0, .ref a_9, .ref a_10, .int 0, .int 0, .ref a_11, .ref a_12, .int 0, .ref a_13, .ref a_14, .int 0, .long 0, .long 0, .int e_cell, .int e_hour, .int e_way, .int e_bright, .int e_points, .ref a_15, .int e_through, .int e_seen, .ref a_16, .int 0, .ref a_17, .ref a_18, .ref a_19, .int 0, .ref a_20, .ref a_21, .long 0, .ref a_22, .int 0])), (a_2, .inl (G.2 0, 5740, .inl (upd (upd (upd (fun _ => 0) 3 (-1)) 4 1000) 6 (-1)))), (a_15, .inl (G.2 0, 200, .inl f_p)), (a_16, .inl (G.2 2, 1536, .inl f_a))] s.heap.size = A at hD hT ⊢
  have hA : ∀ q : Nat, s.heap.size ≤ q → A q := fun q h => by rw [← hAe]; exact Or.inr h
  have hS : va_S A s.heap s.heap [] := va_S.rf
  have hP : va_P G.1 vwCl [(a_y, .inr (12, [.int 0, .int 0, .ref a_1, .ref a_2, .ref a_3, .ref a_4, .int 0, .ref a_5, .int 0, .int 0, .int 0, .int 0, .long 0, .int (-1), .int 0, .int 0, .ref a_6, .int 0, .ref a_7, .ref a_8, .int 0, .ref a_9, .ref a_10, .int 0, .int 0, .ref a_11, .ref a_12, .int 0, .ref a_13, .ref a_14, .int 0, .long 0, .long 0, .int e_cell, .int e_hour, .int e_way, .int e_bright, .int e_points, .ref a_15, .int e_through, .int e_seen, .ref a_16, .int 0, .ref a_17, .ref a_18, .ref a_19, .int 0, .ref a_20, .ref a_21, .long 0, .ref a_22, .int 0])), (a_2, .inl (G.2 0, 5740, .inl (upd (upd (upd (fun _ => 0) 3 (-1)) 4 1000) 6 (-1)))), (a_15, .inl (G.2 0, 200, .inl f_p)), (a_16, .inl (G.2 2, 1536, .inl f_a))] s.heap := hP
  have hl := lv_entry ([.ref a_y, .int p_c, .int p_h]) (n := 5) (Nat.le_of_ble_eq_true rfl)
  rw [lg_entry_eq]
  generalize (lg_sl ([.ref a_y, .int p_c, .int p_h]) ++ List.replicate (5 - (lg_sl ([.ref a_y, .int p_c, .int p_h])).length) Slot.unset).toArray = ls at hl ⊢
  have hl : lv_has ls 5 [(0, .ref a_y), (1, .int p_c), (2, .int p_h)] := hl
  refine lv_iconst (v := 0) hx hb dX12_mark_0 (by decide) ?_
  refine lv_istore_n (lv' := [(3, .int 0), (0, .ref a_y), (1, .int p_c), (2, .int p_h)]) hx hb dX12_mark_1 rfl hl (by decide) rfl (fun ls hl => ?_)
  refine lv_iload_n hx hb dX12_mark_2 rfl (lv_at hl 0 rfl) ?_
  refine lv_iconst (v := 4) hx hb dX12_mark_3 (by decide) ?_
  refine lv_icmp_ge (tgt := 52) hx hb dX12_mark_4 (by decide) (fun c_1 => ?_) (fun c_1 => ?_)
  ·
    exact absurd c_1 (by decide)
  ·
    refine lv_aload_n hx hb dX12_mark_7 rfl (lv_at hl 1 rfl) ?_
    refine lv_iload_n hx hb dX12_mark_8 rfl (lv_at hl 2 rfl) ?_
    refine lv_iload_n hx hb dX12_mark_9 rfl (lv_at hl 0 rfl) ?_
    refine lv_iload_n hx hb dX12_mark_10 rfl (lv_at hl 3 rfl) ?_
    refine lv_iconst (v := 0) hx hb dX12_mark_11 (by decide) ?_
    have hPc := hP.sub (ws' := [(a_y, .inr (12, [.int 0, .int 0, .ref a_1, .ref a_2, .ref a_3, .ref a_4, .int 0, .ref a_5, .int 0, .int 0, .int 0, .int 0, .long 0, .int (-1), .int 0, .int 0, .ref a_6, .int 0, .ref a_7, .ref a_8, .int 0, .ref a_9, .ref a_10, .int 0, .int 0, .ref a_11, .ref a_12, .int 0, .ref a_13, .ref a_14, .int 0, .long 0, .long 0, .int e_cell, .int e_hour, .int e_way, .int e_bright, .int e_points, .ref a_15, .int e_through, .int e_seen, .ref a_16, .int 0, .ref a_17, .ref a_18, .ref a_19, .int 0, .ref a_20, .ref a_21, .long 0, .ref a_22, .int 0])), (a_2, .inl (G.2 0, 5740, .inl (upd (upd (upd (fun _ => 0) 3 (-1)) 4 1000) 6 (-1)))), (a_15, .inl (G.2 0, 200, .inl f_p))]) [0, 1, 2] rfl
    have hDc := hD.sub (ws' := [(a_y, .inr (12, [.int 0, .int 0, .ref a_1, .ref a_2, .ref a_3, .ref a_4, .int 0, .ref a_5, .int 0, .int 0, .int 0, .int 0, .long 0, .int (-1), .int 0, .int 0, .ref a_6, .int 0, .ref a_7, .ref a_8, .int 0, .ref a_9, .ref a_10, .int 0, .int 0, .ref a_11, .ref a_12, .int 0, .ref a_13, .ref a_14, .int 0, .long 0, .long 0, .int e_cell, .int e_hour, .int e_way, .int e_bright, .int e_points, .ref a_15, .int e_through, .int e_seen, .ref a_16, .int 0, .ref a_17, .ref a_18, .ref a_19, .int 0, .ref a_20, .ref a_21, .long 0, .ref a_22, .int 0])), (a_2, .inl (G.2 0, 5740, .inl (upd (upd (upd (fun _ => 0) 3 (-1)) 4 1000) 6 (-1)))), (a_15, .inl (G.2 0, 200, .inl f_p))]) [0, 1, 2] (by decide) rfl
    have hFc := va_free (wc := [(a_y, .inr (12, [.int 0, .int 0, .ref a_1, .ref a_2, .ref a_3, .ref a_4, .int 0, .ref a_5, .int 0, .int 0, .int 0, .int 0, .long 0, .int (-1), .int 0, .int 0, .ref a_6, .int 0, .ref a_7, .ref a_8, .int 0, .ref a_9, .ref a_10, .int 0, .int 0, .ref a_11, .ref a_12, .int 0, .ref a_13, .ref a_14, .int 0, .long 0, .long 0, .int e_cell, .int e_hour, .int e_way, .int e_bright, .int e_points, .ref a_15, .int e_through, .int e_seen, .ref a_16, .int 0, .ref a_17, .ref a_18, .ref a_19, .int 0, .ref a_20, .ref a_21, .long 0, .ref a_22, .int 0])), (a_2, .inl (G.2 0, 5740, .inl (upd (upd (upd (fun _ => 0) 3 (-1)) 4 1000) 6 (-1)))), (a_15, .inl (G.2 0, 200, .inl f_p))]) hD hS hA [0, 1, 2] rfl
    refine va_callv (va_runV (As := [.int p_c, .int 0, .int p_h, .int 0]) (rest := []) ⟨hx, hb, hml, hown, hts⟩ (k_go0 l G a_y a_2 a_15 a_1 a_3 a_4 a_5 a_6 a_7 a_8 a_9 a_10 a_11 a_12 a_13 a_14 a_16 a_17 a_18 a_19 a_20 a_21 a_22 s.heap.size p_c p_h 0 e_cell e_hour e_way e_bright e_points e_through e_seen f_p ⟨by omega, by omega⟩ ⟨by omega, by omega⟩) (cwV 4 hts gV_X12_401 rfl rfl rfl hv_X12_go ⟨Nat.le_of_ble_eq_true rfl, Nat.le_of_ble_eq_true rfl⟩) (g5_preV hPc hK hDc hN hT hS hFc (ci := 12) (q0 := 0) rfl rfl) rfl rfl hl.1 rfl (lv_room (Nat.le_of_ble_eq_true rfl)) dX12_mark_12 ⟨Nat.le_of_ble_eq_true rfl, Nat.le_of_ble_eq_true rfl⟩) hS (fun q _ h => hFc q h) hFc (fun u t H1 locs ht hvm hw hB hz1 hk1 hS => ?_)
    obtain ⟨hP1, hD1⟩ := hB
    rw [ht] at hP1
    obtain ⟨z6, z7, z8, i_2, i_3, i_4, i_5, rfl⟩ := hw
    have i_2 : z6.toInt = p_c.toInt / 8 := i_2
    have i_3 : 0 ≤ z6.toInt ∧ z6.toInt ≤ 7 := i_3
    have i_4 : 0 ≤ z7.toInt ∧ z7.toInt ≤ 63 := i_4
    have i_5 : ∀ j : Nat, (j : Int) < z6.toInt → (z8 j).toInt = p_h.toInt * 64 + (p_c.toInt - 8 * ((j : Int) + 1)) := i_5
    obtain ⟨hP, hD⟩ := va_join (wr := [(a_16, .inl (G.2 2, 1536, .inl f_a))]) (w1 := [(a_y, .inr (12, [.int 0, .int 0, .ref a_1, .ref a_2, .ref a_3, .ref a_4, .int 0, .ref a_5, .int 0, .int 0, .int 0, .int 0, .long 0, .int (-1), .int 0, .int 0, .ref a_6, .int 0, .ref a_7, .ref a_8, .int 0, .ref a_9, .ref a_10, .int 0, .int 0, .ref a_11, .ref a_12, .int 0, .ref a_13, .ref a_14, .int 0, .long 0, .long 0, .int z7, .int p_h, .int 0, .int 1000000, .int z6, .ref a_15, .int 0, .int (-1), .ref a_16, .int 0, .ref a_17, .ref a_18, .ref a_19, .int 0, .ref a_20, .ref a_21, .long 0, .ref a_22, .int 0])), (a_2, .inl (G.2 0, 5740, .inl (upd (upd (upd (fun _ => 0) 3 (-1)) 4 1000) 6 (-1)))), (a_15, .inl (G.2 0, 200, .inl z8))]) hP hD [0, 1, 2] [3] rfl rfl (by decide) (by decide) hk1 hFc hP1 hD1
    generalize H1 = H at hP hS ⊢
    have hP : va_P G.1 vwCl [(a_16, .inl (G.2 2, 1536, .inl f_a)), (a_y, .inr (12, [.int 0, .int 0, .ref a_1, .ref a_2, .ref a_3, .ref a_4, .int 0, .ref a_5, .int 0, .int 0, .int 0, .int 0, .long 0, .int (-1), .int 0, .int 0, .ref a_6, .int 0, .ref a_7, .ref a_8, .int 0, .ref a_9, .ref a_10, .int 0, .int 0, .ref a_11, .ref a_12, .int 0, .ref a_13, .ref a_14, .int 0, .long 0, .long 0, .int z7, .int p_h, .int 0, .int 1000000, .int z6, .ref a_15, .int 0, .int (-1), .ref a_16, .int 0, .ref a_17, .ref a_18, .ref a_19, .int 0, .ref a_20, .ref a_21, .long 0, .ref a_22, .int 0])), (a_2, .inl (G.2 0, 5740, .inl (upd (upd (upd (fun _ => 0) 3 (-1)) 4 1000) 6 (-1)))), (a_15, .inl (G.2 0, 200, .inl z8))] H := hP
    have hD : va_D A [(a_16, .inl (G.2 2, 1536, .inl f_a)), (a_y, .inr (12, [.int 0, .int 0, .ref a_1, .ref a_2, .ref a_3, .ref a_4, .int 0, .ref a_5, .int 0, .int 0, .int 0, .int 0, .long 0, .int (-1), .int 0, .int 0, .ref a_6, .int 0, .ref a_7, .ref a_8, .int 0, .ref a_9, .ref a_10, .int 0, .int 0, .ref a_11, .ref a_12, .int 0, .ref a_13, .ref a_14, .int 0, .long 0, .long 0, .int z7, .int p_h, .int 0, .int 1000000, .int z6, .ref a_15, .int 0, .int (-1), .ref a_16, .int 0, .ref a_17, .ref a_18, .ref a_19, .int 0, .ref a_20, .ref a_21, .long 0, .ref a_22, .int 0])), (a_2, .inl (G.2 0, 5740, .inl (upd (upd (upd (fun _ => 0) 3 (-1)) 4 1000) 6 (-1)))), (a_15, .inl (G.2 0, 200, .inl z8))] := hD
    refine lv_iconst (v := 0) hx hb dX12_mark_15 (by decide) ?_
    refine lv_istore (lv' := [(4, .int 0), (3, .int 0), (0, .ref a_y), (1, .int p_c), (2, .int p_h)]) hx hb dX12_mark_16 hl (by decide) rfl (fun ls hl => ?_)
    refine g5_loop (α := (Int32) × (Nat → Int32)) (fun (q : (Int32) × (Nat → Int32)) (ls : Array Slot) (H : Heap) (locs : List Loc) => match q with | (k_i, k_g) => lv_has ls 5 [(4, .int k_i), (3, .int 0), (0, .ref a_y), (1, .int p_c), (2, .int p_h)] ∧ va_P G.1 vwCl [(a_16, .inl (G.2 2, 1536, .inl k_g)), (a_y, .inr (12, [.int 0, .int 0, .ref a_1, .ref a_2, .ref a_3, .ref a_4, .int 0, .ref a_5, .int 0, .int 0, .int 0, .int 0, .long 0, .int (-1), .int 0, .int 0, .ref a_6, .int 0, .ref a_7, .ref a_8, .int 0, .ref a_9, .ref a_10, .int 0, .int 0, .ref a_11, .ref a_12, .int 0, .ref a_13, .ref a_14, .int 0, .long 0, .long 0, .int z7, .int p_h, .int 0, .int 1000000, .int z6, .ref a_15, .int 0, .int (-1), .ref a_16, .int 0, .ref a_17, .ref a_18, .ref a_19, .int 0, .ref a_20, .ref a_21, .long 0, .ref a_22, .int 0])), (a_2, .inl (G.2 0, 5740, .inl (upd (upd (upd (fun _ => 0) 3 (-1)) 4 1000) 6 (-1)))), (a_15, .inl (G.2 0, 200, .inl z8))] H ∧ va_D A [(a_16, .inl (G.2 2, 1536, .inl k_g)), (a_y, .inr (12, [.int 0, .int 0, .ref a_1, .ref a_2, .ref a_3, .ref a_4, .int 0, .ref a_5, .int 0, .int 0, .int 0, .int 0, .long 0, .int (-1), .int 0, .int 0, .ref a_6, .int 0, .ref a_7, .ref a_8, .int 0, .ref a_9, .ref a_10, .int 0, .int 0, .ref a_11, .ref a_12, .int 0, .ref a_13, .ref a_14, .int 0, .long 0, .long 0, .int z7, .int p_h, .int 0, .int 1000000, .int z6, .ref a_15, .int 0, .int (-1), .ref a_16, .int 0, .ref a_17, .ref a_18, .ref a_19, .int 0, .ref a_20, .ref a_21, .long 0, .ref a_22, .int 0])), (a_2, .inl (G.2 0, 5740, .inl (upd (upd (upd (fun _ => 0) 3 (-1)) 4 1000) 6 (-1)))), (a_15, .inl (G.2 0, 200, .inl z8))] ∧ va_S A s.heap H locs ∧ (0 ≤ k_i.toInt ∧ k_i.toInt ≤ 7) ∧ (k_i.toInt ≤ z6.toInt) ∧ (k_g = ptF (f_a) p_h.toInt (gW 0 p_c.toInt) k_i.toInt.toNat)) (fun (q : (Int32) × (Nat → Int32)) => match q with | (k_i, k_g) => Int.toNat (7 - k_i.toInt)) (0, f_a) ⟨lv_sub hl [0, 1, 2, 3, 4] rfl, hP, hD, hS, ⟨by decide, by decide⟩, by have z0 : (0 : Int32).toInt = 0 := (by decide); omega, g5_ptF0 rfl⟩ ?_
    rintro ⟨k_i, k_g⟩ ls H locs ⟨hl, hP, hD, hS, i_9, i_10, i_11⟩ ih_18_12
    have hl : lv_has ls 5 [(4, .int k_i), (3, .int 0), (0, .ref a_y), (1, .int p_c), (2, .int p_h)] := hl
    have i_9 : 0 ≤ k_i.toInt ∧ k_i.toInt ≤ 7 := i_9
    have i_10 : k_i.toInt ≤ z6.toInt := i_10
    have i_11 : k_g = ptF (f_a) p_h.toInt (gW 0 p_c.toInt) k_i.toInt.toNat := i_11
    have hP : va_P G.1 vwCl [(a_16, .inl (G.2 2, 1536, .inl k_g)), (a_y, .inr (12, [.int 0, .int 0, .ref a_1, .ref a_2, .ref a_3, .ref a_4, .int 0, .ref a_5, .int 0, .int 0, .int 0, .int 0, .long 0, .int (-1), .int 0, .int 0, .ref a_6, .int 0, .ref a_7, .ref a_8, .int 0, .ref a_9, .ref a_10, .int 0, .int 0, .ref a_11, .ref a_12, .int 0, .ref a_13, .ref a_14, .int 0, .long 0, .long 0, .int z7, .int p_h, .int 0, .int 1000000, .int z6, .ref a_15, .int 0, .int (-1), .ref a_16, .int 0, .ref a_17, .ref a_18, .ref a_19, .int 0, .ref a_20, .ref a_21, .long 0, .ref a_22, .int 0])), (a_2, .inl (G.2 0, 5740, .inl (upd (upd (upd (fun _ => 0) 3 (-1)) 4 1000) 6 (-1)))), (a_15, .inl (G.2 0, 200, .inl z8))] H := hP
    have hD : va_D A [(a_16, .inl (G.2 2, 1536, .inl k_g)), (a_y, .inr (12, [.int 0, .int 0, .ref a_1, .ref a_2, .ref a_3, .ref a_4, .int 0, .ref a_5, .int 0, .int 0, .int 0, .int 0, .long 0, .int (-1), .int 0, .int 0, .ref a_6, .int 0, .ref a_7, .ref a_8, .int 0, .ref a_9, .ref a_10, .int 0, .int 0, .ref a_11, .ref a_12, .int 0, .ref a_13, .ref a_14, .int 0, .long 0, .long 0, .int z7, .int p_h, .int 0, .int 1000000, .int z6, .ref a_15, .int 0, .int (-1), .ref a_16, .int 0, .ref a_17, .ref a_18, .ref a_19, .int 0, .ref a_20, .ref a_21, .long 0, .ref a_22, .int 0])), (a_2, .inl (G.2 0, 5740, .inl (upd (upd (upd (fun _ => 0) 3 (-1)) 4 1000) 6 (-1)))), (a_15, .inl (G.2 0, 200, .inl z8))] := hD
    refine lv_iload hx hb dX12_mark_18 (lv_at hl 0 rfl) ?_
    refine lv_aload_n hx hb dX12_mark_20 rfl (lv_at hl 2 rfl) ?_
    refine va_get (D := G.1) (ci := 12) (v := .int z6) (C := RX12) (T := TX12) (N := 52) hx hb hts inG_X12 hown hK hP 1 rfl rfl 37 (by decide) (hts _ fl_X12_358) (fun _ h9 => h9) rfl dX12_mark_21 ?_
    refine lv_icmp_ge (tgt := 46) hx hb dX12_mark_24 (by decide) (fun c_13 => ?_) (fun c_13 => ?_)
    ·
      have i_13 : k_i.toInt ≥ z6.toInt := by have z := g5_ge (a := k_i.toInt) (b := z6.toInt) (by rfl) (by rfl) c_13; omega
      have hpt1 : k_g = ptF (f_a) p_h.toInt (gW 0 p_c.toInt) (nW 0 p_c.toInt).toNat := by rw [i_11]; congr 1; unfold nW; simp only [if_true, reduceIte, Nat.reduceEqDiff]; omega
      refine lv_iinc (v := 1) (lv' := [(3, .int 1), (4, .int k_i), (0, .ref a_y), (1, .int p_c), (2, .int p_h)]) hx hb dX12_mark_46 hl (k := 1) rfl (by decide) (by decide) rfl (fun ls hl => ?_)
      refine lv_goto (tgt := 2) hx hb dX12_mark_49 (by decide) ?_
      refine lv_iload_n hx hb dX12_mark_2 rfl (lv_at hl 0 rfl) ?_
      refine lv_iconst (v := 4) hx hb dX12_mark_3 (by decide) ?_
      refine lv_icmp_ge (tgt := 52) hx hb dX12_mark_4 (by decide) (fun c_14 => ?_) (fun c_14 => ?_)
      ·
        exact absurd c_14 (by decide)
      ·
        refine lv_aload_n hx hb dX12_mark_7 rfl (lv_at hl 2 rfl) ?_
        refine lv_iload_n hx hb dX12_mark_8 rfl (lv_at hl 3 rfl) ?_
        refine lv_iload_n hx hb dX12_mark_9 rfl (lv_at hl 0 rfl) ?_
        refine lv_iload_n hx hb dX12_mark_10 rfl (lv_at hl 4 rfl) ?_
        refine lv_iconst (v := 0) hx hb dX12_mark_11 (by decide) ?_
        have hPc := hP.sub (ws' := [(a_y, .inr (12, [.int 0, .int 0, .ref a_1, .ref a_2, .ref a_3, .ref a_4, .int 0, .ref a_5, .int 0, .int 0, .int 0, .int 0, .long 0, .int (-1), .int 0, .int 0, .ref a_6, .int 0, .ref a_7, .ref a_8, .int 0, .ref a_9, .ref a_10, .int 0, .int 0, .ref a_11, .ref a_12, .int 0, .ref a_13, .ref a_14, .int 0, .long 0, .long 0, .int z7, .int p_h, .int 0, .int 1000000, .int z6, .ref a_15, .int 0, .int (-1), .ref a_16, .int 0, .ref a_17, .ref a_18, .ref a_19, .int 0, .ref a_20, .ref a_21, .long 0, .ref a_22, .int 0])), (a_2, .inl (G.2 0, 5740, .inl (upd (upd (upd (fun _ => 0) 3 (-1)) 4 1000) 6 (-1)))), (a_15, .inl (G.2 0, 200, .inl z8))]) [1, 2, 3] rfl
        have hDc := hD.sub (ws' := [(a_y, .inr (12, [.int 0, .int 0, .ref a_1, .ref a_2, .ref a_3, .ref a_4, .int 0, .ref a_5, .int 0, .int 0, .int 0, .int 0, .long 0, .int (-1), .int 0, .int 0, .ref a_6, .int 0, .ref a_7, .ref a_8, .int 0, .ref a_9, .ref a_10, .int 0, .int 0, .ref a_11, .ref a_12, .int 0, .ref a_13, .ref a_14, .int 0, .long 0, .long 0, .int z7, .int p_h, .int 0, .int 1000000, .int z6, .ref a_15, .int 0, .int (-1), .ref a_16, .int 0, .ref a_17, .ref a_18, .ref a_19, .int 0, .ref a_20, .ref a_21, .long 0, .ref a_22, .int 0])), (a_2, .inl (G.2 0, 5740, .inl (upd (upd (upd (fun _ => 0) 3 (-1)) 4 1000) 6 (-1)))), (a_15, .inl (G.2 0, 200, .inl z8))]) [1, 2, 3] (by decide) rfl
        have hFc := va_free (wc := [(a_y, .inr (12, [.int 0, .int 0, .ref a_1, .ref a_2, .ref a_3, .ref a_4, .int 0, .ref a_5, .int 0, .int 0, .int 0, .int 0, .long 0, .int (-1), .int 0, .int 0, .ref a_6, .int 0, .ref a_7, .ref a_8, .int 0, .ref a_9, .ref a_10, .int 0, .int 0, .ref a_11, .ref a_12, .int 0, .ref a_13, .ref a_14, .int 0, .long 0, .long 0, .int z7, .int p_h, .int 0, .int 1000000, .int z6, .ref a_15, .int 0, .int (-1), .ref a_16, .int 0, .ref a_17, .ref a_18, .ref a_19, .int 0, .ref a_20, .ref a_21, .long 0, .ref a_22, .int 0])), (a_2, .inl (G.2 0, 5740, .inl (upd (upd (upd (fun _ => 0) 3 (-1)) 4 1000) 6 (-1)))), (a_15, .inl (G.2 0, 200, .inl z8))]) hD hS hA [1, 2, 3] rfl
        refine va_callv (va_runV (As := [.int p_c, .int 1, .int p_h, .int 0]) (rest := []) ⟨hx, hb, hml, hown, hts⟩ (k_go1 l G a_y a_2 a_15 a_1 a_3 a_4 a_5 a_6 a_7 a_8 a_9 a_10 a_11 a_12 a_13 a_14 a_16 a_17 a_18 a_19 a_20 a_21 a_22 H.size p_c p_h 0 z7 p_h 0 1000000 z6 0 (-1) z8 ⟨by omega, by omega⟩ ⟨by omega, by omega⟩) (cwV 4 hts gV_X12_401 rfl rfl rfl hv_X12_go ⟨Nat.le_of_ble_eq_true rfl, Nat.le_of_ble_eq_true rfl⟩) (g5_preV hPc hK hDc hN hT hS hFc (ci := 12) (q0 := 0) rfl rfl) rfl rfl hl.1 rfl (lv_room (Nat.le_of_ble_eq_true rfl)) dX12_mark_12 ⟨Nat.le_of_ble_eq_true rfl, Nat.le_of_ble_eq_true rfl⟩) hS (fun q _ h => hFc q h) hFc (fun u t H1 locs ht hvm hw hB hz1 hk1 hS => ?_)
        obtain ⟨hP1, hD1⟩ := hB
        rw [ht] at hP1
        obtain ⟨z19, z20, z21, i_15, i_16, i_17, i_18, rfl⟩ := hw
        have i_15 : z19.toInt = 7 - p_c.toInt % 8 := i_15
        have i_16 : 0 ≤ z19.toInt ∧ z19.toInt ≤ 7 := i_16
        have i_17 : 0 ≤ z20.toInt ∧ z20.toInt ≤ 63 := i_17
        have i_18 : ∀ j : Nat, (j : Int) < z19.toInt → (z21 j).toInt = p_h.toInt * 64 + (p_c.toInt + ((j : Int) + 1)) := i_18
        obtain ⟨hP, hD⟩ := va_join (wr := [(a_16, .inl (G.2 2, 1536, .inl k_g))]) (w1 := [(a_y, .inr (12, [.int 0, .int 0, .ref a_1, .ref a_2, .ref a_3, .ref a_4, .int 0, .ref a_5, .int 0, .int 0, .int 0, .int 0, .long 0, .int (-1), .int 0, .int 0, .ref a_6, .int 0, .ref a_7, .ref a_8, .int 0, .ref a_9, .ref a_10, .int 0, .int 0, .ref a_11, .ref a_12, .int 0, .ref a_13, .ref a_14, .int 0, .long 0, .long 0, .int z20, .int p_h, .int 1, .int 1000000, .int z19, .ref a_15, .int 0, .int (-1), .ref a_16, .int 0, .ref a_17, .ref a_18, .ref a_19, .int 0, .ref a_20, .ref a_21, .long 0, .ref a_22, .int 0])), (a_2, .inl (G.2 0, 5740, .inl (upd (upd (upd (fun _ => 0) 3 (-1)) 4 1000) 6 (-1)))), (a_15, .inl (G.2 0, 200, .inl z21))]) hP hD [1, 2, 3] [0] rfl rfl (by decide) (by decide) hk1 hFc hP1 hD1
        generalize H1 = H at hP hS ⊢
        have hP : va_P G.1 vwCl [(a_16, .inl (G.2 2, 1536, .inl k_g)), (a_y, .inr (12, [.int 0, .int 0, .ref a_1, .ref a_2, .ref a_3, .ref a_4, .int 0, .ref a_5, .int 0, .int 0, .int 0, .int 0, .long 0, .int (-1), .int 0, .int 0, .ref a_6, .int 0, .ref a_7, .ref a_8, .int 0, .ref a_9, .ref a_10, .int 0, .int 0, .ref a_11, .ref a_12, .int 0, .ref a_13, .ref a_14, .int 0, .long 0, .long 0, .int z20, .int p_h, .int 1, .int 1000000, .int z19, .ref a_15, .int 0, .int (-1), .ref a_16, .int 0, .ref a_17, .ref a_18, .ref a_19, .int 0, .ref a_20, .ref a_21, .long 0, .ref a_22, .int 0])), (a_2, .inl (G.2 0, 5740, .inl (upd (upd (upd (fun _ => 0) 3 (-1)) 4 1000) 6 (-1)))), (a_15, .inl (G.2 0, 200, .inl z21))] H := hP
        have hD : va_D A [(a_16, .inl (G.2 2, 1536, .inl k_g)), (a_y, .inr (12, [.int 0, .int 0, .ref a_1, .ref a_2, .ref a_3, .ref a_4, .int 0, .ref a_5, .int 0, .int 0, .int 0, .int 0, .long 0, .int (-1), .int 0, .int 0, .ref a_6, .int 0, .ref a_7, .ref a_8, .int 0, .ref a_9, .ref a_10, .int 0, .int 0, .ref a_11, .ref a_12, .int 0, .ref a_13, .ref a_14, .int 0, .long 0, .long 0, .int z20, .int p_h, .int 1, .int 1000000, .int z19, .ref a_15, .int 0, .int (-1), .ref a_16, .int 0, .ref a_17, .ref a_18, .ref a_19, .int 0, .ref a_20, .ref a_21, .long 0, .ref a_22, .int 0])), (a_2, .inl (G.2 0, 5740, .inl (upd (upd (upd (fun _ => 0) 3 (-1)) 4 1000) 6 (-1)))), (a_15, .inl (G.2 0, 200, .inl z21))] := hD
        refine lv_iconst (v := 0) hx hb dX12_mark_15 (by decide) ?_
        refine lv_istore (lv' := [(4, .int 0), (3, .int 1), (0, .ref a_y), (1, .int p_c), (2, .int p_h)]) hx hb dX12_mark_16 hl (by decide) rfl (fun ls hl => ?_)
        refine g5_loop (α := (Int32) × (Nat → Int32)) (fun (q : (Int32) × (Nat → Int32)) (ls : Array Slot) (H : Heap) (locs : List Loc) => match q with | (k_i, k_g) => lv_has ls 5 [(4, .int k_i), (3, .int 1), (0, .ref a_y), (1, .int p_c), (2, .int p_h)] ∧ va_P G.1 vwCl [(a_16, .inl (G.2 2, 1536, .inl k_g)), (a_y, .inr (12, [.int 0, .int 0, .ref a_1, .ref a_2, .ref a_3, .ref a_4, .int 0, .ref a_5, .int 0, .int 0, .int 0, .int 0, .long 0, .int (-1), .int 0, .int 0, .ref a_6, .int 0, .ref a_7, .ref a_8, .int 0, .ref a_9, .ref a_10, .int 0, .int 0, .ref a_11, .ref a_12, .int 0, .ref a_13, .ref a_14, .int 0, .long 0, .long 0, .int z20, .int p_h, .int 1, .int 1000000, .int z19, .ref a_15, .int 0, .int (-1), .ref a_16, .int 0, .ref a_17, .ref a_18, .ref a_19, .int 0, .ref a_20, .ref a_21, .long 0, .ref a_22, .int 0])), (a_2, .inl (G.2 0, 5740, .inl (upd (upd (upd (fun _ => 0) 3 (-1)) 4 1000) 6 (-1)))), (a_15, .inl (G.2 0, 200, .inl z21))] H ∧ va_D A [(a_16, .inl (G.2 2, 1536, .inl k_g)), (a_y, .inr (12, [.int 0, .int 0, .ref a_1, .ref a_2, .ref a_3, .ref a_4, .int 0, .ref a_5, .int 0, .int 0, .int 0, .int 0, .long 0, .int (-1), .int 0, .int 0, .ref a_6, .int 0, .ref a_7, .ref a_8, .int 0, .ref a_9, .ref a_10, .int 0, .int 0, .ref a_11, .ref a_12, .int 0, .ref a_13, .ref a_14, .int 0, .long 0, .long 0, .int z20, .int p_h, .int 1, .int 1000000, .int z19, .ref a_15, .int 0, .int (-1), .ref a_16, .int 0, .ref a_17, .ref a_18, .ref a_19, .int 0, .ref a_20, .ref a_21, .long 0, .ref a_22, .int 0])), (a_2, .inl (G.2 0, 5740, .inl (upd (upd (upd (fun _ => 0) 3 (-1)) 4 1000) 6 (-1)))), (a_15, .inl (G.2 0, 200, .inl z21))] ∧ va_S A s.heap H locs ∧ (0 ≤ k_i.toInt ∧ k_i.toInt ≤ 7) ∧ (k_i.toInt ≤ z19.toInt) ∧ (k_g = ptF (ptF (f_a) p_h.toInt (gW 0 p_c.toInt) (nW 0 p_c.toInt).toNat) p_h.toInt (gW 1 p_c.toInt) k_i.toInt.toNat)) (fun (q : (Int32) × (Nat → Int32)) => match q with | (k_i, k_g) => Int.toNat (7 - k_i.toInt)) (0, k_g) ⟨lv_sub hl [0, 1, 2, 3, 4] rfl, hP, hD, hS, ⟨by decide, by decide⟩, by have z0 : (0 : Int32).toInt = 0 := (by decide); omega, g5_ptF0 hpt1⟩ ?_
        rintro ⟨k_i, k_g⟩ ls H locs ⟨hl, hP, hD, hS, i_22, i_23, i_24⟩ ih_18_25
        have hl : lv_has ls 5 [(4, .int k_i), (3, .int 1), (0, .ref a_y), (1, .int p_c), (2, .int p_h)] := hl
        have i_22 : 0 ≤ k_i.toInt ∧ k_i.toInt ≤ 7 := i_22
        have i_23 : k_i.toInt ≤ z19.toInt := i_23
        have i_24 : k_g = ptF (ptF (f_a) p_h.toInt (gW 0 p_c.toInt) (nW 0 p_c.toInt).toNat) p_h.toInt (gW 1 p_c.toInt) k_i.toInt.toNat := i_24
        have hP : va_P G.1 vwCl [(a_16, .inl (G.2 2, 1536, .inl k_g)), (a_y, .inr (12, [.int 0, .int 0, .ref a_1, .ref a_2, .ref a_3, .ref a_4, .int 0, .ref a_5, .int 0, .int 0, .int 0, .int 0, .long 0, .int (-1), .int 0, .int 0, .ref a_6, .int 0, .ref a_7, .ref a_8, .int 0, .ref a_9, .ref a_10, .int 0, .int 0, .ref a_11, .ref a_12, .int 0, .ref a_13, .ref a_14, .int 0, .long 0, .long 0, .int z20, .int p_h, .int 1, .int 1000000, .int z19, .ref a_15, .int 0, .int (-1), .ref a_16, .int 0, .ref a_17, .ref a_18, .ref a_19, .int 0, .ref a_20, .ref a_21, .long 0, .ref a_22, .int 0])), (a_2, .inl (G.2 0, 5740, .inl (upd (upd (upd (fun _ => 0) 3 (-1)) 4 1000) 6 (-1)))), (a_15, .inl (G.2 0, 200, .inl z21))] H := hP
        have hD : va_D A [(a_16, .inl (G.2 2, 1536, .inl k_g)), (a_y, .inr (12, [.int 0, .int 0, .ref a_1, .ref a_2, .ref a_3, .ref a_4, .int 0, .ref a_5, .int 0, .int 0, .int 0, .int 0, .long 0, .int (-1), .int 0, .int 0, .ref a_6, .int 0, .ref a_7, .ref a_8, .int 0, .ref a_9, .ref a_10, .int 0, .int 0, .ref a_11, .ref a_12, .int 0, .ref a_13, .ref a_14, .int 0, .long 0, .long 0, .int z20, .int p_h, .int 1, .int 1000000, .int z19, .ref a_15, .int 0, .int (-1), .ref a_16, .int 0, .ref a_17, .ref a_18, .ref a_19, .int 0, .ref a_20, .ref a_21, .long 0, .ref a_22, .int 0])), (a_2, .inl (G.2 0, 5740, .inl (upd (upd (upd (fun _ => 0) 3 (-1)) 4 1000) 6 (-1)))), (a_15, .inl (G.2 0, 200, .inl z21))] := hD
        refine lv_iload hx hb dX12_mark_18 (lv_at hl 0 rfl) ?_
        refine lv_aload_n hx hb dX12_mark_20 rfl (lv_at hl 2 rfl) ?_
        refine va_get (D := G.1) (ci := 12) (v := .int z19) (C := RX12) (T := TX12) (N := 52) hx hb hts inG_X12 hown hK hP 1 rfl rfl 37 (by decide) (hts _ fl_X12_358) (fun _ h9 => h9) rfl dX12_mark_21 ?_
        refine lv_icmp_ge (tgt := 46) hx hb dX12_mark_24 (by decide) (fun c_26 => ?_) (fun c_26 => ?_)
        ·
          have i_26 : k_i.toInt ≥ z19.toInt := by have z := g5_ge (a := k_i.toInt) (b := z19.toInt) (by rfl) (by rfl) c_26; omega
          have hpt2 : k_g = ptF (ptF (f_a) p_h.toInt (gW 0 p_c.toInt) (nW 0 p_c.toInt).toNat) p_h.toInt (gW 1 p_c.toInt) (nW 1 p_c.toInt).toNat := by rw [i_24]; congr 1; unfold nW; simp only [if_true, reduceIte, Nat.reduceEqDiff]; omega
          refine lv_iinc (v := 2) (lv' := [(3, .int 2), (4, .int k_i), (0, .ref a_y), (1, .int p_c), (2, .int p_h)]) hx hb dX12_mark_46 hl (k := 1) rfl (by decide) (by decide) rfl (fun ls hl => ?_)
          refine lv_goto (tgt := 2) hx hb dX12_mark_49 (by decide) ?_
          refine lv_iload_n hx hb dX12_mark_2 rfl (lv_at hl 0 rfl) ?_
          refine lv_iconst (v := 4) hx hb dX12_mark_3 (by decide) ?_
          refine lv_icmp_ge (tgt := 52) hx hb dX12_mark_4 (by decide) (fun c_27 => ?_) (fun c_27 => ?_)
          ·
            exact absurd c_27 (by decide)
          ·
            refine lv_aload_n hx hb dX12_mark_7 rfl (lv_at hl 2 rfl) ?_
            refine lv_iload_n hx hb dX12_mark_8 rfl (lv_at hl 3 rfl) ?_
            refine lv_iload_n hx hb dX12_mark_9 rfl (lv_at hl 0 rfl) ?_
            refine lv_iload_n hx hb dX12_mark_10 rfl (lv_at hl 4 rfl) ?_
            refine lv_iconst (v := 0) hx hb dX12_mark_11 (by decide) ?_
            have hPc := hP.sub (ws' := [(a_y, .inr (12, [.int 0, .int 0, .ref a_1, .ref a_2, .ref a_3, .ref a_4, .int 0, .ref a_5, .int 0, .int 0, .int 0, .int 0, .long 0, .int (-1), .int 0, .int 0, .ref a_6, .int 0, .ref a_7, .ref a_8, .int 0, .ref a_9, .ref a_10, .int 0, .int 0, .ref a_11, .ref a_12, .int 0, .ref a_13, .ref a_14, .int 0, .long 0, .long 0, .int z20, .int p_h, .int 1, .int 1000000, .int z19, .ref a_15, .int 0, .int (-1), .ref a_16, .int 0, .ref a_17, .ref a_18, .ref a_19, .int 0, .ref a_20, .ref a_21, .long 0, .ref a_22, .int 0])), (a_2, .inl (G.2 0, 5740, .inl (upd (upd (upd (fun _ => 0) 3 (-1)) 4 1000) 6 (-1)))), (a_15, .inl (G.2 0, 200, .inl z21))]) [1, 2, 3] rfl
            have hDc := hD.sub (ws' := [(a_y, .inr (12, [.int 0, .int 0, .ref a_1, .ref a_2, .ref a_3, .ref a_4, .int 0, .ref a_5, .int 0, .int 0, .int 0, .int 0, .long 0, .int (-1), .int 0, .int 0, .ref a_6, .int 0, .ref a_7, .ref a_8, .int 0, .ref a_9, .ref a_10, .int 0, .int 0, .ref a_11, .ref a_12, .int 0, .ref a_13, .ref a_14, .int 0, .long 0, .long 0, .int z20, .int p_h, .int 1, .int 1000000, .int z19, .ref a_15, .int 0, .int (-1), .ref a_16, .int 0, .ref a_17, .ref a_18, .ref a_19, .int 0, .ref a_20, .ref a_21, .long 0, .ref a_22, .int 0])), (a_2, .inl (G.2 0, 5740, .inl (upd (upd (upd (fun _ => 0) 3 (-1)) 4 1000) 6 (-1)))), (a_15, .inl (G.2 0, 200, .inl z21))]) [1, 2, 3] (by decide) rfl
            have hFc := va_free (wc := [(a_y, .inr (12, [.int 0, .int 0, .ref a_1, .ref a_2, .ref a_3, .ref a_4, .int 0, .ref a_5, .int 0, .int 0, .int 0, .int 0, .long 0, .int (-1), .int 0, .int 0, .ref a_6, .int 0, .ref a_7, .ref a_8, .int 0, .ref a_9, .ref a_10, .int 0, .int 0, .ref a_11, .ref a_12, .int 0, .ref a_13, .ref a_14, .int 0, .long 0, .long 0, .int z20, .int p_h, .int 1, .int 1000000, .int z19, .ref a_15, .int 0, .int (-1), .ref a_16, .int 0, .ref a_17, .ref a_18, .ref a_19, .int 0, .ref a_20, .ref a_21, .long 0, .ref a_22, .int 0])), (a_2, .inl (G.2 0, 5740, .inl (upd (upd (upd (fun _ => 0) 3 (-1)) 4 1000) 6 (-1)))), (a_15, .inl (G.2 0, 200, .inl z21))]) hD hS hA [1, 2, 3] rfl
            refine va_callv (va_runV (As := [.int p_c, .int 2, .int p_h, .int 0]) (rest := []) ⟨hx, hb, hml, hown, hts⟩ (k_go2 l G a_y a_2 a_15 a_1 a_3 a_4 a_5 a_6 a_7 a_8 a_9 a_10 a_11 a_12 a_13 a_14 a_16 a_17 a_18 a_19 a_20 a_21 a_22 H.size p_c p_h 0 z20 p_h 1 1000000 z19 0 (-1) z21 ⟨by omega, by omega⟩ ⟨by omega, by omega⟩) (cwV 4 hts gV_X12_401 rfl rfl rfl hv_X12_go ⟨Nat.le_of_ble_eq_true rfl, Nat.le_of_ble_eq_true rfl⟩) (g5_preV hPc hK hDc hN hT hS hFc (ci := 12) (q0 := 0) rfl rfl) rfl rfl hl.1 rfl (lv_room (Nat.le_of_ble_eq_true rfl)) dX12_mark_12 ⟨Nat.le_of_ble_eq_true rfl, Nat.le_of_ble_eq_true rfl⟩) hS (fun q _ h => hFc q h) hFc (fun u t H1 locs ht hvm hw hB hz1 hk1 hS => ?_)
            obtain ⟨hP1, hD1⟩ := hB
            rw [ht] at hP1
            obtain ⟨z32, z33, z34, i_28, i_29, i_30, i_31, rfl⟩ := hw
            have i_28 : z32.toInt = 7 - p_c.toInt / 8 := i_28
            have i_29 : 0 ≤ z32.toInt ∧ z32.toInt ≤ 7 := i_29
            have i_30 : 0 ≤ z33.toInt ∧ z33.toInt ≤ 63 := i_30
            have i_31 : ∀ j : Nat, (j : Int) < z32.toInt → (z34 j).toInt = p_h.toInt * 64 + (p_c.toInt + 8 * ((j : Int) + 1)) := i_31
            obtain ⟨hP, hD⟩ := va_join (wr := [(a_16, .inl (G.2 2, 1536, .inl k_g))]) (w1 := [(a_y, .inr (12, [.int 0, .int 0, .ref a_1, .ref a_2, .ref a_3, .ref a_4, .int 0, .ref a_5, .int 0, .int 0, .int 0, .int 0, .long 0, .int (-1), .int 0, .int 0, .ref a_6, .int 0, .ref a_7, .ref a_8, .int 0, .ref a_9, .ref a_10, .int 0, .int 0, .ref a_11, .ref a_12, .int 0, .ref a_13, .ref a_14, .int 0, .long 0, .long 0, .int z33, .int p_h, .int 2, .int 1000000, .int z32, .ref a_15, .int 0, .int (-1), .ref a_16, .int 0, .ref a_17, .ref a_18, .ref a_19, .int 0, .ref a_20, .ref a_21, .long 0, .ref a_22, .int 0])), (a_2, .inl (G.2 0, 5740, .inl (upd (upd (upd (fun _ => 0) 3 (-1)) 4 1000) 6 (-1)))), (a_15, .inl (G.2 0, 200, .inl z34))]) hP hD [1, 2, 3] [0] rfl rfl (by decide) (by decide) hk1 hFc hP1 hD1
            generalize H1 = H at hP hS ⊢
            have hP : va_P G.1 vwCl [(a_16, .inl (G.2 2, 1536, .inl k_g)), (a_y, .inr (12, [.int 0, .int 0, .ref a_1, .ref a_2, .ref a_3, .ref a_4, .int 0, .ref a_5, .int 0, .int 0, .int 0, .int 0, .long 0, .int (-1), .int 0, .int 0, .ref a_6, .int 0, .ref a_7, .ref a_8, .int 0, .ref a_9, .ref a_10, .int 0, .int 0, .ref a_11, .ref a_12, .int 0, .ref a_13, .ref a_14, .int 0, .long 0, .long 0, .int z33, .int p_h, .int 2, .int 1000000, .int z32, .ref a_15, .int 0, .int (-1), .ref a_16, .int 0, .ref a_17, .ref a_18, .ref a_19, .int 0, .ref a_20, .ref a_21, .long 0, .ref a_22, .int 0])), (a_2, .inl (G.2 0, 5740, .inl (upd (upd (upd (fun _ => 0) 3 (-1)) 4 1000) 6 (-1)))), (a_15, .inl (G.2 0, 200, .inl z34))] H := hP
            have hD : va_D A [(a_16, .inl (G.2 2, 1536, .inl k_g)), (a_y, .inr (12, [.int 0, .int 0, .ref a_1, .ref a_2, .ref a_3, .ref a_4, .int 0, .ref a_5, .int 0, .int 0, .int 0, .int 0, .long 0, .int (-1), .int 0, .int 0, .ref a_6, .int 0, .ref a_7, .ref a_8, .int 0, .ref a_9, .ref a_10, .int 0, .int 0, .ref a_11, .ref a_12, .int 0, .ref a_13, .ref a_14, .int 0, .long 0, .long 0, .int z33, .int p_h, .int 2, .int 1000000, .int z32, .ref a_15, .int 0, .int (-1), .ref a_16, .int 0, .ref a_17, .ref a_18, .ref a_19, .int 0, .ref a_20, .ref a_21, .long 0, .ref a_22, .int 0])), (a_2, .inl (G.2 0, 5740, .inl (upd (upd (upd (fun _ => 0) 3 (-1)) 4 1000) 6 (-1)))), (a_15, .inl (G.2 0, 200, .inl z34))] := hD
            refine lv_iconst (v := 0) hx hb dX12_mark_15 (by decide) ?_
            refine lv_istore (lv' := [(4, .int 0), (3, .int 2), (0, .ref a_y), (1, .int p_c), (2, .int p_h)]) hx hb dX12_mark_16 hl (by decide) rfl (fun ls hl => ?_)
            refine g5_loop (α := (Int32) × (Nat → Int32)) (fun (q : (Int32) × (Nat → Int32)) (ls : Array Slot) (H : Heap) (locs : List Loc) => match q with | (k_i, k_g) => lv_has ls 5 [(4, .int k_i), (3, .int 2), (0, .ref a_y), (1, .int p_c), (2, .int p_h)] ∧ va_P G.1 vwCl [(a_16, .inl (G.2 2, 1536, .inl k_g)), (a_y, .inr (12, [.int 0, .int 0, .ref a_1, .ref a_2, .ref a_3, .ref a_4, .int 0, .ref a_5, .int 0, .int 0, .int 0, .int 0, .long 0, .int (-1), .int 0, .int 0, .ref a_6, .int 0, .ref a_7, .ref a_8, .int 0, .ref a_9, .ref a_10, .int 0, .int 0, .ref a_11, .ref a_12, .int 0, .ref a_13, .ref a_14, .int 0, .long 0, .long 0, .int z33, .int p_h, .int 2, .int 1000000, .int z32, .ref a_15, .int 0, .int (-1), .ref a_16, .int 0, .ref a_17, .ref a_18, .ref a_19, .int 0, .ref a_20, .ref a_21, .long 0, .ref a_22, .int 0])), (a_2, .inl (G.2 0, 5740, .inl (upd (upd (upd (fun _ => 0) 3 (-1)) 4 1000) 6 (-1)))), (a_15, .inl (G.2 0, 200, .inl z34))] H ∧ va_D A [(a_16, .inl (G.2 2, 1536, .inl k_g)), (a_y, .inr (12, [.int 0, .int 0, .ref a_1, .ref a_2, .ref a_3, .ref a_4, .int 0, .ref a_5, .int 0, .int 0, .int 0, .int 0, .long 0, .int (-1), .int 0, .int 0, .ref a_6, .int 0, .ref a_7, .ref a_8, .int 0, .ref a_9, .ref a_10, .int 0, .int 0, .ref a_11, .ref a_12, .int 0, .ref a_13, .ref a_14, .int 0, .long 0, .long 0, .int z33, .int p_h, .int 2, .int 1000000, .int z32, .ref a_15, .int 0, .int (-1), .ref a_16, .int 0, .ref a_17, .ref a_18, .ref a_19, .int 0, .ref a_20, .ref a_21, .long 0, .ref a_22, .int 0])), (a_2, .inl (G.2 0, 5740, .inl (upd (upd (upd (fun _ => 0) 3 (-1)) 4 1000) 6 (-1)))), (a_15, .inl (G.2 0, 200, .inl z34))] ∧ va_S A s.heap H locs ∧ (0 ≤ k_i.toInt ∧ k_i.toInt ≤ 7) ∧ (k_i.toInt ≤ z32.toInt) ∧ (k_g = ptF (ptF (ptF (f_a) p_h.toInt (gW 0 p_c.toInt) (nW 0 p_c.toInt).toNat) p_h.toInt (gW 1 p_c.toInt) (nW 1 p_c.toInt).toNat) p_h.toInt (gW 2 p_c.toInt) k_i.toInt.toNat)) (fun (q : (Int32) × (Nat → Int32)) => match q with | (k_i, k_g) => Int.toNat (7 - k_i.toInt)) (0, k_g) ⟨lv_sub hl [0, 1, 2, 3, 4] rfl, hP, hD, hS, ⟨by decide, by decide⟩, by have z0 : (0 : Int32).toInt = 0 := (by decide); omega, g5_ptF0 hpt2⟩ ?_
            rintro ⟨k_i, k_g⟩ ls H locs ⟨hl, hP, hD, hS, i_35, i_36, i_37⟩ ih_18_38
            have hl : lv_has ls 5 [(4, .int k_i), (3, .int 2), (0, .ref a_y), (1, .int p_c), (2, .int p_h)] := hl
            have i_35 : 0 ≤ k_i.toInt ∧ k_i.toInt ≤ 7 := i_35
            have i_36 : k_i.toInt ≤ z32.toInt := i_36
            have i_37 : k_g = ptF (ptF (ptF (f_a) p_h.toInt (gW 0 p_c.toInt) (nW 0 p_c.toInt).toNat) p_h.toInt (gW 1 p_c.toInt) (nW 1 p_c.toInt).toNat) p_h.toInt (gW 2 p_c.toInt) k_i.toInt.toNat := i_37
            have hP : va_P G.1 vwCl [(a_16, .inl (G.2 2, 1536, .inl k_g)), (a_y, .inr (12, [.int 0, .int 0, .ref a_1, .ref a_2, .ref a_3, .ref a_4, .int 0, .ref a_5, .int 0, .int 0, .int 0, .int 0, .long 0, .int (-1), .int 0, .int 0, .ref a_6, .int 0, .ref a_7, .ref a_8, .int 0, .ref a_9, .ref a_10, .int 0, .int 0, .ref a_11, .ref a_12, .int 0, .ref a_13, .ref a_14, .int 0, .long 0, .long 0, .int z33, .int p_h, .int 2, .int 1000000, .int z32, .ref a_15, .int 0, .int (-1), .ref a_16, .int 0, .ref a_17, .ref a_18, .ref a_19, .int 0, .ref a_20, .ref a_21, .long 0, .ref a_22, .int 0])), (a_2, .inl (G.2 0, 5740, .inl (upd (upd (upd (fun _ => 0) 3 (-1)) 4 1000) 6 (-1)))), (a_15, .inl (G.2 0, 200, .inl z34))] H := hP
            have hD : va_D A [(a_16, .inl (G.2 2, 1536, .inl k_g)), (a_y, .inr (12, [.int 0, .int 0, .ref a_1, .ref a_2, .ref a_3, .ref a_4, .int 0, .ref a_5, .int 0, .int 0, .int 0, .int 0, .long 0, .int (-1), .int 0, .int 0, .ref a_6, .int 0, .ref a_7, .ref a_8, .int 0, .ref a_9, .ref a_10, .int 0, .int 0, .ref a_11, .ref a_12, .int 0, .ref a_13, .ref a_14, .int 0, .long 0, .long 0, .int z33, .int p_h, .int 2, .int 1000000, .int z32, .ref a_15, .int 0, .int (-1), .ref a_16, .int 0, .ref a_17, .ref a_18, .ref a_19, .int 0, .ref a_20, .ref a_21, .long 0, .ref a_22, .int 0])), (a_2, .inl (G.2 0, 5740, .inl (upd (upd (upd (fun _ => 0) 3 (-1)) 4 1000) 6 (-1)))), (a_15, .inl (G.2 0, 200, .inl z34))] := hD
            refine lv_iload hx hb dX12_mark_18 (lv_at hl 0 rfl) ?_
            refine lv_aload_n hx hb dX12_mark_20 rfl (lv_at hl 2 rfl) ?_
            refine va_get (D := G.1) (ci := 12) (v := .int z32) (C := RX12) (T := TX12) (N := 52) hx hb hts inG_X12 hown hK hP 1 rfl rfl 37 (by decide) (hts _ fl_X12_358) (fun _ h9 => h9) rfl dX12_mark_21 ?_
            refine lv_icmp_ge (tgt := 46) hx hb dX12_mark_24 (by decide) (fun c_39 => ?_) (fun c_39 => ?_)
            ·
              have i_39 : k_i.toInt ≥ z32.toInt := by have z := g5_ge (a := k_i.toInt) (b := z32.toInt) (by rfl) (by rfl) c_39; omega
              have hpt3 : k_g = ptF (ptF (ptF (f_a) p_h.toInt (gW 0 p_c.toInt) (nW 0 p_c.toInt).toNat) p_h.toInt (gW 1 p_c.toInt) (nW 1 p_c.toInt).toNat) p_h.toInt (gW 2 p_c.toInt) (nW 2 p_c.toInt).toNat := by rw [i_37]; congr 1; unfold nW; simp only [if_true, reduceIte, Nat.reduceEqDiff]; omega
              refine lv_iinc (v := 3) (lv' := [(3, .int 3), (4, .int k_i), (0, .ref a_y), (1, .int p_c), (2, .int p_h)]) hx hb dX12_mark_46 hl (k := 1) rfl (by decide) (by decide) rfl (fun ls hl => ?_)
              refine lv_goto (tgt := 2) hx hb dX12_mark_49 (by decide) ?_
              refine lv_iload_n hx hb dX12_mark_2 rfl (lv_at hl 0 rfl) ?_
              refine lv_iconst (v := 4) hx hb dX12_mark_3 (by decide) ?_
              refine lv_icmp_ge (tgt := 52) hx hb dX12_mark_4 (by decide) (fun c_40 => ?_) (fun c_40 => ?_)
              ·
                exact absurd c_40 (by decide)
              ·
                refine lv_aload_n hx hb dX12_mark_7 rfl (lv_at hl 2 rfl) ?_
                refine lv_iload_n hx hb dX12_mark_8 rfl (lv_at hl 3 rfl) ?_
                refine lv_iload_n hx hb dX12_mark_9 rfl (lv_at hl 0 rfl) ?_
                refine lv_iload_n hx hb dX12_mark_10 rfl (lv_at hl 4 rfl) ?_
                refine lv_iconst (v := 0) hx hb dX12_mark_11 (by decide) ?_
                have hPc := hP.sub (ws' := [(a_y, .inr (12, [.int 0, .int 0, .ref a_1, .ref a_2, .ref a_3, .ref a_4, .int 0, .ref a_5, .int 0, .int 0, .int 0, .int 0, .long 0, .int (-1), .int 0, .int 0, .ref a_6, .int 0, .ref a_7, .ref a_8, .int 0, .ref a_9, .ref a_10, .int 0, .int 0, .ref a_11, .ref a_12, .int 0, .ref a_13, .ref a_14, .int 0, .long 0, .long 0, .int z33, .int p_h, .int 2, .int 1000000, .int z32, .ref a_15, .int 0, .int (-1), .ref a_16, .int 0, .ref a_17, .ref a_18, .ref a_19, .int 0, .ref a_20, .ref a_21, .long 0, .ref a_22, .int 0])), (a_2, .inl (G.2 0, 5740, .inl (upd (upd (upd (fun _ => 0) 3 (-1)) 4 1000) 6 (-1)))), (a_15, .inl (G.2 0, 200, .inl z34))]) [1, 2, 3] rfl
                have hDc := hD.sub (ws' := [(a_y, .inr (12, [.int 0, .int 0, .ref a_1, .ref a_2, .ref a_3, .ref a_4, .int 0, .ref a_5, .int 0, .int 0, .int 0, .int 0, .long 0, .int (-1), .int 0, .int 0, .ref a_6, .int 0, .ref a_7, .ref a_8, .int 0, .ref a_9, .ref a_10, .int 0, .int 0, .ref a_11, .ref a_12, .int 0, .ref a_13, .ref a_14, .int 0, .long 0, .long 0, .int z33, .int p_h, .int 2, .int 1000000, .int z32, .ref a_15, .int 0, .int (-1), .ref a_16, .int 0, .ref a_17, .ref a_18, .ref a_19, .int 0, .ref a_20, .ref a_21, .long 0, .ref a_22, .int 0])), (a_2, .inl (G.2 0, 5740, .inl (upd (upd (upd (fun _ => 0) 3 (-1)) 4 1000) 6 (-1)))), (a_15, .inl (G.2 0, 200, .inl z34))]) [1, 2, 3] (by decide) rfl
                have hFc := va_free (wc := [(a_y, .inr (12, [.int 0, .int 0, .ref a_1, .ref a_2, .ref a_3, .ref a_4, .int 0, .ref a_5, .int 0, .int 0, .int 0, .int 0, .long 0, .int (-1), .int 0, .int 0, .ref a_6, .int 0, .ref a_7, .ref a_8, .int 0, .ref a_9, .ref a_10, .int 0, .int 0, .ref a_11, .ref a_12, .int 0, .ref a_13, .ref a_14, .int 0, .long 0, .long 0, .int z33, .int p_h, .int 2, .int 1000000, .int z32, .ref a_15, .int 0, .int (-1), .ref a_16, .int 0, .ref a_17, .ref a_18, .ref a_19, .int 0, .ref a_20, .ref a_21, .long 0, .ref a_22, .int 0])), (a_2, .inl (G.2 0, 5740, .inl (upd (upd (upd (fun _ => 0) 3 (-1)) 4 1000) 6 (-1)))), (a_15, .inl (G.2 0, 200, .inl z34))]) hD hS hA [1, 2, 3] rfl
                refine va_callv (va_runV (As := [.int p_c, .int 3, .int p_h, .int 0]) (rest := []) ⟨hx, hb, hml, hown, hts⟩ (k_go3 l G a_y a_2 a_15 a_1 a_3 a_4 a_5 a_6 a_7 a_8 a_9 a_10 a_11 a_12 a_13 a_14 a_16 a_17 a_18 a_19 a_20 a_21 a_22 H.size p_c p_h 0 z33 p_h 2 1000000 z32 0 (-1) z34 ⟨by omega, by omega⟩ ⟨by omega, by omega⟩) (cwV 4 hts gV_X12_401 rfl rfl rfl hv_X12_go ⟨Nat.le_of_ble_eq_true rfl, Nat.le_of_ble_eq_true rfl⟩) (g5_preV hPc hK hDc hN hT hS hFc (ci := 12) (q0 := 0) rfl rfl) rfl rfl hl.1 rfl (lv_room (Nat.le_of_ble_eq_true rfl)) dX12_mark_12 ⟨Nat.le_of_ble_eq_true rfl, Nat.le_of_ble_eq_true rfl⟩) hS (fun q _ h => hFc q h) hFc (fun u t H1 locs ht hvm hw hB hz1 hk1 hS => ?_)
                obtain ⟨hP1, hD1⟩ := hB
                rw [ht] at hP1
                obtain ⟨z45, z46, z47, i_41, i_42, i_43, i_44, rfl⟩ := hw
                have i_41 : z45.toInt = p_c.toInt % 8 := i_41
                have i_42 : 0 ≤ z45.toInt ∧ z45.toInt ≤ 7 := i_42
                have i_43 : 0 ≤ z46.toInt ∧ z46.toInt ≤ 63 := i_43
                have i_44 : ∀ j : Nat, (j : Int) < z45.toInt → (z47 j).toInt = p_h.toInt * 64 + (p_c.toInt - ((j : Int) + 1)) := i_44
                obtain ⟨hP, hD⟩ := va_join (wr := [(a_16, .inl (G.2 2, 1536, .inl k_g))]) (w1 := [(a_y, .inr (12, [.int 0, .int 0, .ref a_1, .ref a_2, .ref a_3, .ref a_4, .int 0, .ref a_5, .int 0, .int 0, .int 0, .int 0, .long 0, .int (-1), .int 0, .int 0, .ref a_6, .int 0, .ref a_7, .ref a_8, .int 0, .ref a_9, .ref a_10, .int 0, .int 0, .ref a_11, .ref a_12, .int 0, .ref a_13, .ref a_14, .int 0, .long 0, .long 0, .int z46, .int p_h, .int 3, .int 1000000, .int z45, .ref a_15, .int 0, .int (-1), .ref a_16, .int 0, .ref a_17, .ref a_18, .ref a_19, .int 0, .ref a_20, .ref a_21, .long 0, .ref a_22, .int 0])), (a_2, .inl (G.2 0, 5740, .inl (upd (upd (upd (fun _ => 0) 3 (-1)) 4 1000) 6 (-1)))), (a_15, .inl (G.2 0, 200, .inl z47))]) hP hD [1, 2, 3] [0] rfl rfl (by decide) (by decide) hk1 hFc hP1 hD1
                generalize H1 = H at hP hS ⊢
                have hP : va_P G.1 vwCl [(a_16, .inl (G.2 2, 1536, .inl k_g)), (a_y, .inr (12, [.int 0, .int 0, .ref a_1, .ref a_2, .ref a_3, .ref a_4, .int 0, .ref a_5, .int 0, .int 0, .int 0, .int 0, .long 0, .int (-1), .int 0, .int 0, .ref a_6, .int 0, .ref a_7, .ref a_8, .int 0, .ref a_9, .ref a_10, .int 0, .int 0, .ref a_11, .ref a_12, .int 0, .ref a_13, .ref a_14, .int 0, .long 0, .long 0, .int z46, .int p_h, .int 3, .int 1000000, .int z45, .ref a_15, .int 0, .int (-1), .ref a_16, .int 0, .ref a_17, .ref a_18, .ref a_19, .int 0, .ref a_20, .ref a_21, .long 0, .ref a_22, .int 0])), (a_2, .inl (G.2 0, 5740, .inl (upd (upd (upd (fun _ => 0) 3 (-1)) 4 1000) 6 (-1)))), (a_15, .inl (G.2 0, 200, .inl z47))] H := hP
                have hD : va_D A [(a_16, .inl (G.2 2, 1536, .inl k_g)), (a_y, .inr (12, [.int 0, .int 0, .ref a_1, .ref a_2, .ref a_3, .ref a_4, .int 0, .ref a_5, .int 0, .int 0, .int 0, .int 0, .long 0, .int (-1), .int 0, .int 0, .ref a_6, .int 0, .ref a_7, .ref a_8, .int 0, .ref a_9, .ref a_10, .int 0, .int 0, .ref a_11, .ref a_12, .int 0, .ref a_13, .ref a_14, .int 0, .long 0, .long 0, .int z46, .int p_h, .int 3, .int 1000000, .int z45, .ref a_15, .int 0, .int (-1), .ref a_16, .int 0, .ref a_17, .ref a_18, .ref a_19, .int 0, .ref a_20, .ref a_21, .long 0, .ref a_22, .int 0])), (a_2, .inl (G.2 0, 5740, .inl (upd (upd (upd (fun _ => 0) 3 (-1)) 4 1000) 6 (-1)))), (a_15, .inl (G.2 0, 200, .inl z47))] := hD
                refine lv_iconst (v := 0) hx hb dX12_mark_15 (by decide) ?_
                refine lv_istore (lv' := [(4, .int 0), (3, .int 3), (0, .ref a_y), (1, .int p_c), (2, .int p_h)]) hx hb dX12_mark_16 hl (by decide) rfl (fun ls hl => ?_)
                refine g5_loop (α := (Int32) × (Nat → Int32)) (fun (q : (Int32) × (Nat → Int32)) (ls : Array Slot) (H : Heap) (locs : List Loc) => match q with | (k_i, k_g) => lv_has ls 5 [(4, .int k_i), (3, .int 3), (0, .ref a_y), (1, .int p_c), (2, .int p_h)] ∧ va_P G.1 vwCl [(a_16, .inl (G.2 2, 1536, .inl k_g)), (a_y, .inr (12, [.int 0, .int 0, .ref a_1, .ref a_2, .ref a_3, .ref a_4, .int 0, .ref a_5, .int 0, .int 0, .int 0, .int 0, .long 0, .int (-1), .int 0, .int 0, .ref a_6, .int 0, .ref a_7, .ref a_8, .int 0, .ref a_9, .ref a_10, .int 0, .int 0, .ref a_11, .ref a_12, .int 0, .ref a_13, .ref a_14, .int 0, .long 0, .long 0, .int z46, .int p_h, .int 3, .int 1000000, .int z45, .ref a_15, .int 0, .int (-1), .ref a_16, .int 0, .ref a_17, .ref a_18, .ref a_19, .int 0, .ref a_20, .ref a_21, .long 0, .ref a_22, .int 0])), (a_2, .inl (G.2 0, 5740, .inl (upd (upd (upd (fun _ => 0) 3 (-1)) 4 1000) 6 (-1)))), (a_15, .inl (G.2 0, 200, .inl z47))] H ∧ va_D A [(a_16, .inl (G.2 2, 1536, .inl k_g)), (a_y, .inr (12, [.int 0, .int 0, .ref a_1, .ref a_2, .ref a_3, .ref a_4, .int 0, .ref a_5, .int 0, .int 0, .int 0, .int 0, .long 0, .int (-1), .int 0, .int 0, .ref a_6, .int 0, .ref a_7, .ref a_8, .int 0, .ref a_9, .ref a_10, .int 0, .int 0, .ref a_11, .ref a_12, .int 0, .ref a_13, .ref a_14, .int 0, .long 0, .long 0, .int z46, .int p_h, .int 3, .int 1000000, .int z45, .ref a_15, .int 0, .int (-1), .ref a_16, .int 0, .ref a_17, .ref a_18, .ref a_19, .int 0, .ref a_20, .ref a_21, .long 0, .ref a_22, .int 0])), (a_2, .inl (G.2 0, 5740, .inl (upd (upd (upd (fun _ => 0) 3 (-1)) 4 1000) 6 (-1)))), (a_15, .inl (G.2 0, 200, .inl z47))] ∧ va_S A s.heap H locs ∧ (0 ≤ k_i.toInt ∧ k_i.toInt ≤ 7) ∧ (k_i.toInt ≤ z45.toInt) ∧ (k_g = ptF (ptF (ptF (ptF (f_a) p_h.toInt (gW 0 p_c.toInt) (nW 0 p_c.toInt).toNat) p_h.toInt (gW 1 p_c.toInt) (nW 1 p_c.toInt).toNat) p_h.toInt (gW 2 p_c.toInt) (nW 2 p_c.toInt).toNat) p_h.toInt (gW 3 p_c.toInt) k_i.toInt.toNat)) (fun (q : (Int32) × (Nat → Int32)) => match q with | (k_i, k_g) => Int.toNat (7 - k_i.toInt)) (0, k_g) ⟨lv_sub hl [0, 1, 2, 3, 4] rfl, hP, hD, hS, ⟨by decide, by decide⟩, by have z0 : (0 : Int32).toInt = 0 := (by decide); omega, g5_ptF0 hpt3⟩ ?_
                rintro ⟨k_i, k_g⟩ ls H locs ⟨hl, hP, hD, hS, i_48, i_49, i_50⟩ ih_18_51
                have hl : lv_has ls 5 [(4, .int k_i), (3, .int 3), (0, .ref a_y), (1, .int p_c), (2, .int p_h)] := hl
                have i_48 : 0 ≤ k_i.toInt ∧ k_i.toInt ≤ 7 := i_48
                have i_49 : k_i.toInt ≤ z45.toInt := i_49
                have i_50 : k_g = ptF (ptF (ptF (ptF (f_a) p_h.toInt (gW 0 p_c.toInt) (nW 0 p_c.toInt).toNat) p_h.toInt (gW 1 p_c.toInt) (nW 1 p_c.toInt).toNat) p_h.toInt (gW 2 p_c.toInt) (nW 2 p_c.toInt).toNat) p_h.toInt (gW 3 p_c.toInt) k_i.toInt.toNat := i_50
                have hP : va_P G.1 vwCl [(a_16, .inl (G.2 2, 1536, .inl k_g)), (a_y, .inr (12, [.int 0, .int 0, .ref a_1, .ref a_2, .ref a_3, .ref a_4, .int 0, .ref a_5, .int 0, .int 0, .int 0, .int 0, .long 0, .int (-1), .int 0, .int 0, .ref a_6, .int 0, .ref a_7, .ref a_8, .int 0, .ref a_9, .ref a_10, .int 0, .int 0, .ref a_11, .ref a_12, .int 0, .ref a_13, .ref a_14, .int 0, .long 0, .long 0, .int z46, .int p_h, .int 3, .int 1000000, .int z45, .ref a_15, .int 0, .int (-1), .ref a_16, .int 0, .ref a_17, .ref a_18, .ref a_19, .int 0, .ref a_20, .ref a_21, .long 0, .ref a_22, .int 0])), (a_2, .inl (G.2 0, 5740, .inl (upd (upd (upd (fun _ => 0) 3 (-1)) 4 1000) 6 (-1)))), (a_15, .inl (G.2 0, 200, .inl z47))] H := hP
                have hD : va_D A [(a_16, .inl (G.2 2, 1536, .inl k_g)), (a_y, .inr (12, [.int 0, .int 0, .ref a_1, .ref a_2, .ref a_3, .ref a_4, .int 0, .ref a_5, .int 0, .int 0, .int 0, .int 0, .long 0, .int (-1), .int 0, .int 0, .ref a_6, .int 0, .ref a_7, .ref a_8, .int 0, .ref a_9, .ref a_10, .int 0, .int 0, .ref a_11, .ref a_12, .int 0, .ref a_13, .ref a_14, .int 0, .long 0, .long 0, .int z46, .int p_h, .int 3, .int 1000000, .int z45, .ref a_15, .int 0, .int (-1), .ref a_16, .int 0, .ref a_17, .ref a_18, .ref a_19, .int 0, .ref a_20, .ref a_21, .long 0, .ref a_22, .int 0])), (a_2, .inl (G.2 0, 5740, .inl (upd (upd (upd (fun _ => 0) 3 (-1)) 4 1000) 6 (-1)))), (a_15, .inl (G.2 0, 200, .inl z47))] := hD
                refine lv_iload hx hb dX12_mark_18 (lv_at hl 0 rfl) ?_
                refine lv_aload_n hx hb dX12_mark_20 rfl (lv_at hl 2 rfl) ?_
                refine va_get (D := G.1) (ci := 12) (v := .int z45) (C := RX12) (T := TX12) (N := 52) hx hb hts inG_X12 hown hK hP 1 rfl rfl 37 (by decide) (hts _ fl_X12_358) (fun _ h9 => h9) rfl dX12_mark_21 ?_
                refine lv_icmp_ge (tgt := 46) hx hb dX12_mark_24 (by decide) (fun c_52 => ?_) (fun c_52 => ?_)
                ·
                  have i_52 : k_i.toInt ≥ z45.toInt := by have z := g5_ge (a := k_i.toInt) (b := z45.toInt) (by rfl) (by rfl) c_52; omega
                  have hpt4 : k_g = ptF (ptF (ptF (ptF (f_a) p_h.toInt (gW 0 p_c.toInt) (nW 0 p_c.toInt).toNat) p_h.toInt (gW 1 p_c.toInt) (nW 1 p_c.toInt).toNat) p_h.toInt (gW 2 p_c.toInt) (nW 2 p_c.toInt).toNat) p_h.toInt (gW 3 p_c.toInt) (nW 3 p_c.toInt).toNat := by rw [i_50]; congr 1; unfold nW; simp only [if_true, reduceIte, Nat.reduceEqDiff]; omega
                  refine lv_iinc (v := 4) (lv' := [(3, .int 4), (4, .int k_i), (0, .ref a_y), (1, .int p_c), (2, .int p_h)]) hx hb dX12_mark_46 hl (k := 1) rfl (by decide) (by decide) rfl (fun ls hl => ?_)
                  refine lv_goto (tgt := 2) hx hb dX12_mark_49 (by decide) ?_
                  refine lv_iload_n hx hb dX12_mark_2 rfl (lv_at hl 0 rfl) ?_
                  refine lv_iconst (v := 4) hx hb dX12_mark_3 (by decide) ?_
                  refine lv_icmp_ge (tgt := 52) hx hb dX12_mark_4 (by decide) (fun c_53 => ?_) (fun c_53 => ?_)
                  ·
                    exact W.vret hx hb hr (fun t ht hW => ⟨⟨[(a_y, .inr (12, [.int 0, .int 0, .ref a_1, .ref a_2, .ref a_3, .ref a_4, .int 0, .ref a_5, .int 0, .int 0, .int 0, .int 0, .long 0, .int (-1), .int 0, .int 0, .ref a_6, .int 0, .ref a_7, .ref a_8, .int 0, .ref a_9, .ref a_10, .int 0, .int 0, .ref a_11, .ref a_12, .int 0, .ref a_13, .ref a_14, .int 0, .long 0, .long 0, .int z46, .int p_h, .int 3, .int 1000000, .int z45, .ref a_15, .int 0, .int (-1), .ref a_16, .int 0, .ref a_17, .ref a_18, .ref a_19, .int 0, .ref a_20, .ref a_21, .long 0, .ref a_22, .int 0])), (a_2, .inl (G.2 0, 5740, .inl (upd (upd (upd (fun _ => 0) 3 (-1)) 4 1000) 6 (-1)))), (a_16, .inl (G.2 2, 1536, .inl k_g))], rfl, ⟨z46, z45, k_g, ⟨by omega, by omega⟩, ⟨by omega, by omega⟩, hpt4, rfl⟩, by rw [ht]; exact hP.sub [1, 2, 0] rfl, hD.sub [1, 2, 0] (by decide) rfl⟩, hS.F ht⟩) hS.2.2 dX12_mark_52
                  ·
                    exact absurd c_53 (by decide)
                ·
                  have i_52 : k_i.toInt < z45.toInt := by have z := g5_geN (a := k_i.toInt) (b := z45.toInt) (by rfl) (by rfl) c_52; omega
                  refine lv_aload_n hx hb dX12_mark_27 rfl (lv_at hl 2 rfl) ?_
                  refine va_get (D := G.1) (ci := 12) (v := .ref a_16) (C := RX12) (T := TX12) (N := 52) hx hb hts inG_X12 hown hK hP 1 rfl rfl 41 (by decide) (hts _ fl_X12_85) (fun _ h9 => h9) rfl dX12_mark_28 ?_
                  refine lv_aload_n hx hb dX12_mark_31 rfl (lv_at hl 2 rfl) ?_
                  refine va_get (D := G.1) (ci := 12) (v := .ref a_15) (C := RX12) (T := TX12) (N := 52) hx hb hts inG_X12 hown hK hP 1 rfl rfl 38 (by decide) (hts _ fl_X12_82) (fun _ h9 => h9) rfl dX12_mark_32 ?_
                  refine lv_iload hx hb dX12_mark_35 (lv_at hl 0 rfl) ?_
                  have tz_54 := g5_clamp k_i
                  have t_54 := i_44 (k_i.toNatClampNeg) (by omega)
                  refine va_iald hx hb hK hP 3 0 rfl rfl (i := k_i) (vp_in_iff.mpr ⟨by omega, by omega⟩) dX12_mark_37 ?_
                  refine lv_iconst (v := 1) hx hb dX12_mark_38 (by decide) ?_
                  refine va_zast hx hb hK hP hD hS 0 2 rfl rfl (i := (z47 k_i.toNatClampNeg)) (x := 1) (vp_in_iff.mpr ⟨by omega, by omega⟩) dX12_mark_39 (fun H locs hP hD hS => ?_)
                  have hP : va_P G.1 vwCl [(a_16, .inl (G.2 2, 1536, .inl (upd k_g (z47 k_i.toNatClampNeg).toNatClampNeg 1))), (a_y, .inr (12, [.int 0, .int 0, .ref a_1, .ref a_2, .ref a_3, .ref a_4, .int 0, .ref a_5, .int 0, .int 0, .int 0, .int 0, .long 0, .int (-1), .int 0, .int 0, .ref a_6, .int 0, .ref a_7, .ref a_8, .int 0, .ref a_9, .ref a_10, .int 0, .int 0, .ref a_11, .ref a_12, .int 0, .ref a_13, .ref a_14, .int 0, .long 0, .long 0, .int z46, .int p_h, .int 3, .int 1000000, .int z45, .ref a_15, .int 0, .int (-1), .ref a_16, .int 0, .ref a_17, .ref a_18, .ref a_19, .int 0, .ref a_20, .ref a_21, .long 0, .ref a_22, .int 0])), (a_2, .inl (G.2 0, 5740, .inl (upd (upd (upd (fun _ => 0) 3 (-1)) 4 1000) 6 (-1)))), (a_15, .inl (G.2 0, 200, .inl z47))] H := hP
                  have hD : va_D A [(a_16, .inl (G.2 2, 1536, .inl (upd k_g (z47 k_i.toNatClampNeg).toNatClampNeg 1))), (a_y, .inr (12, [.int 0, .int 0, .ref a_1, .ref a_2, .ref a_3, .ref a_4, .int 0, .ref a_5, .int 0, .int 0, .int 0, .int 0, .long 0, .int (-1), .int 0, .int 0, .ref a_6, .int 0, .ref a_7, .ref a_8, .int 0, .ref a_9, .ref a_10, .int 0, .int 0, .ref a_11, .ref a_12, .int 0, .ref a_13, .ref a_14, .int 0, .long 0, .long 0, .int z46, .int p_h, .int 3, .int 1000000, .int z45, .ref a_15, .int 0, .int (-1), .ref a_16, .int 0, .ref a_17, .ref a_18, .ref a_19, .int 0, .ref a_20, .ref a_21, .long 0, .ref a_22, .int 0])), (a_2, .inl (G.2 0, 5740, .inl (upd (upd (upd (fun _ => 0) 3 (-1)) 4 1000) 6 (-1)))), (a_15, .inl (G.2 0, 200, .inl z47))] := hD
                  refine lv_iinc (v := (k_i + 1)) (lv' := [(4, .int (k_i + 1)), (3, .int 3), (0, .ref a_y), (1, .int p_c), (2, .int p_h)]) hx hb dX12_mark_40 hl (k := 0) rfl rfl (by decide) rfl (fun ls hl => ?_)
                  have t_55 : (k_i + 1).toInt = k_i.toInt + 1 := g5_iadd (a := k_i.toInt) (b := 1) rfl (by decide) (by omega) (by omega)
                  refine lv_goto (tgt := 18) hx hb dX12_mark_43 (by decide) ?_
                  exact ih_18_51 ((k_i + 1), (upd k_g (z47 k_i.toNatClampNeg).toNatClampNeg 1)) ls H locs (show Int.toNat (7 - (k_i + 1).toInt) < Int.toNat (7 - k_i.toInt) by omega) ⟨lv_sub hl [0, 1, 2, 3, 4] rfl, hP, hD, hS, ⟨by omega, by omega⟩, by omega, g5_ptF i_50 (by omega) (by omega) (by unfold gW; simp only [if_true, reduceIte, Nat.reduceEqDiff]; omega)⟩
            ·
              have i_39 : k_i.toInt < z32.toInt := by have z := g5_geN (a := k_i.toInt) (b := z32.toInt) (by rfl) (by rfl) c_39; omega
              refine lv_aload_n hx hb dX12_mark_27 rfl (lv_at hl 2 rfl) ?_
              refine va_get (D := G.1) (ci := 12) (v := .ref a_16) (C := RX12) (T := TX12) (N := 52) hx hb hts inG_X12 hown hK hP 1 rfl rfl 41 (by decide) (hts _ fl_X12_85) (fun _ h9 => h9) rfl dX12_mark_28 ?_
              refine lv_aload_n hx hb dX12_mark_31 rfl (lv_at hl 2 rfl) ?_
              refine va_get (D := G.1) (ci := 12) (v := .ref a_15) (C := RX12) (T := TX12) (N := 52) hx hb hts inG_X12 hown hK hP 1 rfl rfl 38 (by decide) (hts _ fl_X12_82) (fun _ h9 => h9) rfl dX12_mark_32 ?_
              refine lv_iload hx hb dX12_mark_35 (lv_at hl 0 rfl) ?_
              have tz_56 := g5_clamp k_i
              have t_56 := i_31 (k_i.toNatClampNeg) (by omega)
              refine va_iald hx hb hK hP 3 0 rfl rfl (i := k_i) (vp_in_iff.mpr ⟨by omega, by omega⟩) dX12_mark_37 ?_
              refine lv_iconst (v := 1) hx hb dX12_mark_38 (by decide) ?_
              refine va_zast hx hb hK hP hD hS 0 2 rfl rfl (i := (z34 k_i.toNatClampNeg)) (x := 1) (vp_in_iff.mpr ⟨by omega, by omega⟩) dX12_mark_39 (fun H locs hP hD hS => ?_)
              have hP : va_P G.1 vwCl [(a_16, .inl (G.2 2, 1536, .inl (upd k_g (z34 k_i.toNatClampNeg).toNatClampNeg 1))), (a_y, .inr (12, [.int 0, .int 0, .ref a_1, .ref a_2, .ref a_3, .ref a_4, .int 0, .ref a_5, .int 0, .int 0, .int 0, .int 0, .long 0, .int (-1), .int 0, .int 0, .ref a_6, .int 0, .ref a_7, .ref a_8, .int 0, .ref a_9, .ref a_10, .int 0, .int 0, .ref a_11, .ref a_12, .int 0, .ref a_13, .ref a_14, .int 0, .long 0, .long 0, .int z33, .int p_h, .int 2, .int 1000000, .int z32, .ref a_15, .int 0, .int (-1), .ref a_16, .int 0, .ref a_17, .ref a_18, .ref a_19, .int 0, .ref a_20, .ref a_21, .long 0, .ref a_22, .int 0])), (a_2, .inl (G.2 0, 5740, .inl (upd (upd (upd (fun _ => 0) 3 (-1)) 4 1000) 6 (-1)))), (a_15, .inl (G.2 0, 200, .inl z34))] H := hP
              have hD : va_D A [(a_16, .inl (G.2 2, 1536, .inl (upd k_g (z34 k_i.toNatClampNeg).toNatClampNeg 1))), (a_y, .inr (12, [.int 0, .int 0, .ref a_1, .ref a_2, .ref a_3, .ref a_4, .int 0, .ref a_5, .int 0, .int 0, .int 0, .int 0, .long 0, .int (-1), .int 0, .int 0, .ref a_6, .int 0, .ref a_7, .ref a_8, .int 0, .ref a_9, .ref a_10, .int 0, .int 0, .ref a_11, .ref a_12, .int 0, .ref a_13, .ref a_14, .int 0, .long 0, .long 0, .int z33, .int p_h, .int 2, .int 1000000, .int z32, .ref a_15, .int 0, .int (-1), .ref a_16, .int 0, .ref a_17, .ref a_18, .ref a_19, .int 0, .ref a_20, .ref a_21, .long 0, .ref a_22, .int 0])), (a_2, .inl (G.2 0, 5740, .inl (upd (upd (upd (fun _ => 0) 3 (-1)) 4 1000) 6 (-1)))), (a_15, .inl (G.2 0, 200, .inl z34))] := hD
              refine lv_iinc (v := (k_i + 1)) (lv' := [(4, .int (k_i + 1)), (3, .int 2), (0, .ref a_y), (1, .int p_c), (2, .int p_h)]) hx hb dX12_mark_40 hl (k := 0) rfl rfl (by decide) rfl (fun ls hl => ?_)
              have t_57 : (k_i + 1).toInt = k_i.toInt + 1 := g5_iadd (a := k_i.toInt) (b := 1) rfl (by decide) (by omega) (by omega)
              refine lv_goto (tgt := 18) hx hb dX12_mark_43 (by decide) ?_
              exact ih_18_38 ((k_i + 1), (upd k_g (z34 k_i.toNatClampNeg).toNatClampNeg 1)) ls H locs (show Int.toNat (7 - (k_i + 1).toInt) < Int.toNat (7 - k_i.toInt) by omega) ⟨lv_sub hl [0, 1, 2, 3, 4] rfl, hP, hD, hS, ⟨by omega, by omega⟩, by omega, g5_ptF i_37 (by omega) (by omega) (by unfold gW; simp only [if_true, reduceIte, Nat.reduceEqDiff]; omega)⟩
        ·
          have i_26 : k_i.toInt < z19.toInt := by have z := g5_geN (a := k_i.toInt) (b := z19.toInt) (by rfl) (by rfl) c_26; omega
          refine lv_aload_n hx hb dX12_mark_27 rfl (lv_at hl 2 rfl) ?_
          refine va_get (D := G.1) (ci := 12) (v := .ref a_16) (C := RX12) (T := TX12) (N := 52) hx hb hts inG_X12 hown hK hP 1 rfl rfl 41 (by decide) (hts _ fl_X12_85) (fun _ h9 => h9) rfl dX12_mark_28 ?_
          refine lv_aload_n hx hb dX12_mark_31 rfl (lv_at hl 2 rfl) ?_
          refine va_get (D := G.1) (ci := 12) (v := .ref a_15) (C := RX12) (T := TX12) (N := 52) hx hb hts inG_X12 hown hK hP 1 rfl rfl 38 (by decide) (hts _ fl_X12_82) (fun _ h9 => h9) rfl dX12_mark_32 ?_
          refine lv_iload hx hb dX12_mark_35 (lv_at hl 0 rfl) ?_
          have tz_58 := g5_clamp k_i
          have t_58 := i_18 (k_i.toNatClampNeg) (by omega)
          refine va_iald hx hb hK hP 3 0 rfl rfl (i := k_i) (vp_in_iff.mpr ⟨by omega, by omega⟩) dX12_mark_37 ?_
          refine lv_iconst (v := 1) hx hb dX12_mark_38 (by decide) ?_
          refine va_zast hx hb hK hP hD hS 0 2 rfl rfl (i := (z21 k_i.toNatClampNeg)) (x := 1) (vp_in_iff.mpr ⟨by omega, by omega⟩) dX12_mark_39 (fun H locs hP hD hS => ?_)
          have hP : va_P G.1 vwCl [(a_16, .inl (G.2 2, 1536, .inl (upd k_g (z21 k_i.toNatClampNeg).toNatClampNeg 1))), (a_y, .inr (12, [.int 0, .int 0, .ref a_1, .ref a_2, .ref a_3, .ref a_4, .int 0, .ref a_5, .int 0, .int 0, .int 0, .int 0, .long 0, .int (-1), .int 0, .int 0, .ref a_6, .int 0, .ref a_7, .ref a_8, .int 0, .ref a_9, .ref a_10, .int 0, .int 0, .ref a_11, .ref a_12, .int 0, .ref a_13, .ref a_14, .int 0, .long 0, .long 0, .int z20, .int p_h, .int 1, .int 1000000, .int z19, .ref a_15, .int 0, .int (-1), .ref a_16, .int 0, .ref a_17, .ref a_18, .ref a_19, .int 0, .ref a_20, .ref a_21, .long 0, .ref a_22, .int 0])), (a_2, .inl (G.2 0, 5740, .inl (upd (upd (upd (fun _ => 0) 3 (-1)) 4 1000) 6 (-1)))), (a_15, .inl (G.2 0, 200, .inl z21))] H := hP
          have hD : va_D A [(a_16, .inl (G.2 2, 1536, .inl (upd k_g (z21 k_i.toNatClampNeg).toNatClampNeg 1))), (a_y, .inr (12, [.int 0, .int 0, .ref a_1, .ref a_2, .ref a_3, .ref a_4, .int 0, .ref a_5, .int 0, .int 0, .int 0, .int 0, .long 0, .int (-1), .int 0, .int 0, .ref a_6, .int 0, .ref a_7, .ref a_8, .int 0, .ref a_9, .ref a_10, .int 0, .int 0, .ref a_11, .ref a_12, .int 0, .ref a_13, .ref a_14, .int 0, .long 0, .long 0, .int z20, .int p_h, .int 1, .int 1000000, .int z19, .ref a_15, .int 0, .int (-1), .ref a_16, .int 0, .ref a_17, .ref a_18, .ref a_19, .int 0, .ref a_20, .ref a_21, .long 0, .ref a_22, .int 0])), (a_2, .inl (G.2 0, 5740, .inl (upd (upd (upd (fun _ => 0) 3 (-1)) 4 1000) 6 (-1)))), (a_15, .inl (G.2 0, 200, .inl z21))] := hD
          refine lv_iinc (v := (k_i + 1)) (lv' := [(4, .int (k_i + 1)), (3, .int 1), (0, .ref a_y), (1, .int p_c), (2, .int p_h)]) hx hb dX12_mark_40 hl (k := 0) rfl rfl (by decide) rfl (fun ls hl => ?_)
          have t_59 : (k_i + 1).toInt = k_i.toInt + 1 := g5_iadd (a := k_i.toInt) (b := 1) rfl (by decide) (by omega) (by omega)
          refine lv_goto (tgt := 18) hx hb dX12_mark_43 (by decide) ?_
          exact ih_18_25 ((k_i + 1), (upd k_g (z21 k_i.toNatClampNeg).toNatClampNeg 1)) ls H locs (show Int.toNat (7 - (k_i + 1).toInt) < Int.toNat (7 - k_i.toInt) by omega) ⟨lv_sub hl [0, 1, 2, 3, 4] rfl, hP, hD, hS, ⟨by omega, by omega⟩, by omega, g5_ptF i_24 (by omega) (by omega) (by unfold gW; simp only [if_true, reduceIte, Nat.reduceEqDiff]; omega)⟩
    ·
      have i_13 : k_i.toInt < z6.toInt := by have z := g5_geN (a := k_i.toInt) (b := z6.toInt) (by rfl) (by rfl) c_13; omega
      refine lv_aload_n hx hb dX12_mark_27 rfl (lv_at hl 2 rfl) ?_
      refine va_get (D := G.1) (ci := 12) (v := .ref a_16) (C := RX12) (T := TX12) (N := 52) hx hb hts inG_X12 hown hK hP 1 rfl rfl 41 (by decide) (hts _ fl_X12_85) (fun _ h9 => h9) rfl dX12_mark_28 ?_
      refine lv_aload_n hx hb dX12_mark_31 rfl (lv_at hl 2 rfl) ?_
      refine va_get (D := G.1) (ci := 12) (v := .ref a_15) (C := RX12) (T := TX12) (N := 52) hx hb hts inG_X12 hown hK hP 1 rfl rfl 38 (by decide) (hts _ fl_X12_82) (fun _ h9 => h9) rfl dX12_mark_32 ?_
      refine lv_iload hx hb dX12_mark_35 (lv_at hl 0 rfl) ?_
      have tz_60 := g5_clamp k_i
      have t_60 := i_5 (k_i.toNatClampNeg) (by omega)
      refine va_iald hx hb hK hP 3 0 rfl rfl (i := k_i) (vp_in_iff.mpr ⟨by omega, by omega⟩) dX12_mark_37 ?_
      refine lv_iconst (v := 1) hx hb dX12_mark_38 (by decide) ?_
      refine va_zast hx hb hK hP hD hS 0 2 rfl rfl (i := (z8 k_i.toNatClampNeg)) (x := 1) (vp_in_iff.mpr ⟨by omega, by omega⟩) dX12_mark_39 (fun H locs hP hD hS => ?_)
      have hP : va_P G.1 vwCl [(a_16, .inl (G.2 2, 1536, .inl (upd k_g (z8 k_i.toNatClampNeg).toNatClampNeg 1))), (a_y, .inr (12, [.int 0, .int 0, .ref a_1, .ref a_2, .ref a_3, .ref a_4, .int 0, .ref a_5, .int 0, .int 0, .int 0, .int 0, .long 0, .int (-1), .int 0, .int 0, .ref a_6, .int 0, .ref a_7, .ref a_8, .int 0, .ref a_9, .ref a_10, .int 0, .int 0, .ref a_11, .ref a_12, .int 0, .ref a_13, .ref a_14, .int 0, .long 0, .long 0, .int z7, .int p_h, .int 0, .int 1000000, .int z6, .ref a_15, .int 0, .int (-1), .ref a_16, .int 0, .ref a_17, .ref a_18, .ref a_19, .int 0, .ref a_20, .ref a_21, .long 0, .ref a_22, .int 0])), (a_2, .inl (G.2 0, 5740, .inl (upd (upd (upd (fun _ => 0) 3 (-1)) 4 1000) 6 (-1)))), (a_15, .inl (G.2 0, 200, .inl z8))] H := hP
      have hD : va_D A [(a_16, .inl (G.2 2, 1536, .inl (upd k_g (z8 k_i.toNatClampNeg).toNatClampNeg 1))), (a_y, .inr (12, [.int 0, .int 0, .ref a_1, .ref a_2, .ref a_3, .ref a_4, .int 0, .ref a_5, .int 0, .int 0, .int 0, .int 0, .long 0, .int (-1), .int 0, .int 0, .ref a_6, .int 0, .ref a_7, .ref a_8, .int 0, .ref a_9, .ref a_10, .int 0, .int 0, .ref a_11, .ref a_12, .int 0, .ref a_13, .ref a_14, .int 0, .long 0, .long 0, .int z7, .int p_h, .int 0, .int 1000000, .int z6, .ref a_15, .int 0, .int (-1), .ref a_16, .int 0, .ref a_17, .ref a_18, .ref a_19, .int 0, .ref a_20, .ref a_21, .long 0, .ref a_22, .int 0])), (a_2, .inl (G.2 0, 5740, .inl (upd (upd (upd (fun _ => 0) 3 (-1)) 4 1000) 6 (-1)))), (a_15, .inl (G.2 0, 200, .inl z8))] := hD
      refine lv_iinc (v := (k_i + 1)) (lv' := [(4, .int (k_i + 1)), (3, .int 0), (0, .ref a_y), (1, .int p_c), (2, .int p_h)]) hx hb dX12_mark_40 hl (k := 0) rfl rfl (by decide) rfl (fun ls hl => ?_)
      have t_61 : (k_i + 1).toInt = k_i.toInt + 1 := g5_iadd (a := k_i.toInt) (b := 1) rfl (by decide) (by omega) (by omega)
      refine lv_goto (tgt := 18) hx hb dX12_mark_43 (by decide) ?_
      exact ih_18_12 ((k_i + 1), (upd k_g (z8 k_i.toNatClampNeg).toNatClampNeg 1)) ls H locs (show Int.toNat (7 - (k_i + 1).toInt) < Int.toNat (7 - k_i.toInt) by omega) ⟨lv_sub hl [0, 1, 2, 3, 4] rfl, hP, hD, hS, ⟨by omega, by omega⟩, by omega, g5_ptF i_11 (by omega) (by omega) (by unfold gW; simp only [if_true, reduceIte, Nat.reduceEqDiff]; omega)⟩
theorem dX12_lit_0 : decode cX12_lit 0 = .ok (.aload_n 0, 1) := by decide +kernel
theorem dX12_lit_1 : decode cX12_lit 1 = .ok (.iconst 0, 1) := by decide +kernel
theorem dX12_lit_2 : decode cX12_lit 2 = .ok (.putfield 107, 3) := by decide +kernel
theorem dX12_lit_5 : decode cX12_lit 5 = .ok (.iload_n 1, 1) := by decide +kernel
theorem dX12_lit_6 : decode cX12_lit 6 = .ok (.invokestatic 138, 3) := by decide +kernel
theorem dX12_lit_9 : decode cX12_lit 9 = .ok (.ifCond .eq 24, 3) := by decide +kernel
theorem dX12_lit_12 : decode cX12_lit 12 = .ok (.iload_n 2, 1) := by decide +kernel
theorem dX12_lit_13 : decode cX12_lit 13 = .ok (.invokestatic 175, 3) := by decide +kernel
theorem dX12_lit_16 : decode cX12_lit 16 = .ok (.ifCond .eq 17, 3) := by decide +kernel
theorem dX12_lit_19 : decode cX12_lit 19 = .ok (.iload_n 3, 1) := by decide +kernel
theorem dX12_lit_20 : decode cX12_lit 20 = .ok (.i2l, 1) := by decide +kernel
theorem dX12_lit_21 : decode cX12_lit 21 = .ok (.ldc2_w 178, 3) := by decide +kernel
theorem dX12_lit_24 : decode cX12_lit 24 = .ok (.ldc2_w 128, 3) := by decide +kernel
theorem dX12_lit_27 : decode cX12_lit 27 = .ok (.invokestatic 121, 3) := by decide +kernel
theorem dX12_lit_30 : decode cX12_lit 30 = .ok (.ifCond .ne 5, 3) := by decide +kernel
theorem dX12_lit_33 : decode cX12_lit 33 = .ok (.iconst (-1), 1) := by decide +kernel
theorem dX12_lit_34 : decode cX12_lit 34 = .ok (.ireturn, 1) := by decide +kernel
theorem dX12_lit_35 : decode cX12_lit 35 = .ok (.aload_n 0, 1) := by decide +kernel
theorem dX12_lit_36 : decode cX12_lit 36 = .ok (.invokevirtual 413, 3) := by decide +kernel
theorem dX12_lit_39 : decode cX12_lit 39 = .ok (.aload_n 0, 1) := by decide +kernel
theorem dX12_lit_40 : decode cX12_lit 40 = .ok (.iload_n 1, 1) := by decide +kernel
theorem dX12_lit_41 : decode cX12_lit 41 = .ok (.iload_n 2, 1) := by decide +kernel
theorem dX12_lit_42 : decode cX12_lit 42 = .ok (.invokevirtual 416, 3) := by decide +kernel
theorem dX12_lit_45 : decode cX12_lit 45 = .ok (.iconst 0, 1) := by decide +kernel
theorem dX12_lit_46 : decode cX12_lit 46 = .ok (.istore 4, 2) := by decide +kernel
theorem dX12_lit_48 : decode cX12_lit 48 = .ok (.iconst 0, 1) := by decide +kernel
theorem dX12_lit_49 : decode cX12_lit 49 = .ok (.istore 5, 2) := by decide +kernel
theorem dX12_lit_51 : decode cX12_lit 51 = .ok (.iload 5, 2) := by decide +kernel
theorem dX12_lit_53 : decode cX12_lit 53 = .ok (.bipush 64, 2) := by decide +kernel
theorem dX12_lit_55 : decode cX12_lit 55 = .ok (.if_icmp .ge 82, 3) := by decide +kernel
theorem dX12_lit_58 : decode cX12_lit 58 = .ok (.iconst 0, 1) := by decide +kernel
theorem dX12_lit_59 : decode cX12_lit 59 = .ok (.istore 6, 2) := by decide +kernel
theorem dX12_lit_61 : decode cX12_lit 61 = .ok (.iconst 0, 1) := by decide +kernel
theorem dX12_lit_62 : decode cX12_lit 62 = .ok (.istore 7, 2) := by decide +kernel
theorem dX12_lit_64 : decode cX12_lit 64 = .ok (.iload 7, 2) := by decide +kernel
theorem dX12_lit_66 : decode cX12_lit 66 = .ok (.bipush 24, 2) := by decide +kernel
theorem dX12_lit_68 : decode cX12_lit 68 = .ok (.if_icmp .ge 37, 3) := by decide +kernel
theorem dX12_lit_71 : decode cX12_lit 71 = .ok (.iload 6, 2) := by decide +kernel
theorem dX12_lit_73 : decode cX12_lit 73 = .ok (.ifCond .ne 19, 3) := by decide +kernel
theorem dX12_lit_76 : decode cX12_lit 76 = .ok (.aload_n 0, 1) := by decide +kernel
theorem dX12_lit_77 : decode cX12_lit 77 = .ok (.getfield 85, 3) := by decide +kernel
theorem dX12_lit_80 : decode cX12_lit 80 = .ok (.bipush 64, 2) := by decide +kernel
theorem dX12_lit_82 : decode cX12_lit 82 = .ok (.iload 7, 2) := by decide +kernel
theorem dX12_lit_84 : decode cX12_lit 84 = .ok (.imul, 1) := by decide +kernel
theorem dX12_lit_85 : decode cX12_lit 85 = .ok (.iload 5, 2) := by decide +kernel
theorem dX12_lit_87 : decode cX12_lit 87 = .ok (.iadd, 1) := by decide +kernel
theorem dX12_lit_88 : decode cX12_lit 88 = .ok (.baload, 1) := by decide +kernel
theorem dX12_lit_89 : decode cX12_lit 89 = .ok (.ifCond .eq 7, 3) := by decide +kernel
theorem dX12_lit_92 : decode cX12_lit 92 = .ok (.iconst 1, 1) := by decide +kernel
theorem dX12_lit_93 : decode cX12_lit 93 = .ok (.goto 4, 3) := by decide +kernel
theorem dX12_lit_96 : decode cX12_lit 96 = .ok (.iconst 0, 1) := by decide +kernel
theorem dX12_lit_97 : decode cX12_lit 97 = .ok (.istore 6, 2) := by decide +kernel
theorem dX12_lit_99 : decode cX12_lit 99 = .ok (.iinc 7 1, 3) := by decide +kernel
theorem dX12_lit_102 : decode cX12_lit 102 = .ok (.goto (-38), 3) := by decide +kernel
theorem dX12_lit_105 : decode cX12_lit 105 = .ok (.iload 4, 2) := by decide +kernel
theorem dX12_lit_107 : decode cX12_lit 107 = .ok (.iload 6, 2) := by decide +kernel
theorem dX12_lit_109 : decode cX12_lit 109 = .ok (.ifCond .eq 18, 3) := by decide +kernel
theorem dX12_lit_112 : decode cX12_lit 112 = .ok (.iload_n 3, 1) := by decide +kernel
theorem dX12_lit_113 : decode cX12_lit 113 = .ok (.iconst (-1), 1) := by decide +kernel
theorem dX12_lit_114 : decode cX12_lit 114 = .ok (.if_icmp .eq 9, 3) := by decide +kernel
theorem dX12_lit_117 : decode cX12_lit 117 = .ok (.iload_n 3, 1) := by decide +kernel
theorem dX12_lit_118 : decode cX12_lit 118 = .ok (.iload 5, 2) := by decide +kernel
theorem dX12_lit_120 : decode cX12_lit 120 = .ok (.if_icmp .ne 7, 3) := by decide +kernel
theorem dX12_lit_123 : decode cX12_lit 123 = .ok (.iconst 1, 1) := by decide +kernel
theorem dX12_lit_124 : decode cX12_lit 124 = .ok (.goto 4, 3) := by decide +kernel
theorem dX12_lit_127 : decode cX12_lit 127 = .ok (.iconst 0, 1) := by decide +kernel
theorem dX12_lit_128 : decode cX12_lit 128 = .ok (.iadd, 1) := by decide +kernel
theorem dX12_lit_129 : decode cX12_lit 129 = .ok (.istore 4, 2) := by decide +kernel
theorem dX12_lit_131 : decode cX12_lit 131 = .ok (.iinc 5 1, 3) := by decide +kernel
theorem dX12_lit_134 : decode cX12_lit 134 = .ok (.goto (-83), 3) := by decide +kernel
theorem dX12_lit_137 : decode cX12_lit 137 = .ok (.iload 4, 2) := by decide +kernel
theorem dX12_lit_139 : decode cX12_lit 139 = .ok (.ireturn, 1) := by decide +kernel
theorem ml_X12_416 : Cond.methodLink RX12 416 yX12_mark ∈ tblG := tg 1684 (by decide +kernel) (by decide +kernel)
theorem im_X12_mark : Cond.instanceMethod yX12_mark ∈ tblG := tg 1686 (by decide +kernel) (by decide +kernel)
theorem se_X12_mark : Cond.selects RX12 yX12_mark yX12_mark ∈ tblG := tg 73 (by decide +kernel) (by decide +kernel)
theorem cd_X12_mark : Cond.code yX12_mark cX12_mark 5 none ∈ tblG := tg 1687 (by decide +kernel) (by decide +kernel)
theorem gW_X12_mark : GoodIn tblG (wsG yX12_mark cX12_mark 5 none) := tgi cd_X12_mark
theorem gV_X12_416 : GoodIn tblG (wsV RX12 416 RX12 yX12_mark (wsG yX12_mark cX12_mark 5 none)) := tgV ml_X12_416 im_X12_mark se_X12_mark ini_X12 gW_X12_mark
theorem hv_X12_mark : yX12_mark.cls = RX12 ∧ yX12_mark.cls ≠ "java/lang/invoke/MethodHandle" ∧ yX12_mark.cls ≠ "java/lang/invoke/VarHandle" ∧ (parseMethodDescriptor yX12_mark.desc).map (fun d => d.parameters.length) = some 2 := by decide +kernel
set_option maxHeartbeats 4000000 in
set_option maxRecDepth 100000 in
theorem k_mlit (l : Launch) (G : g5_G) (a_y a_2 a_15 a_16 a_1 a_3 a_4 a_5 a_6 a_7 a_8 a_9 a_10 a_11 a_12 a_13 a_14 a_17 a_18 a_19 a_20 a_21 a_22 : Nat) (sz : Nat) (p_c : Int32) (p_h : Int32) (p_w : Int32) : Met l yX12_lit (wsG yX12_lit cX12_lit 8 (some .int)) ({ frames := 3, cells := 0, slots := 0, locals := 72 }) (va_Pc [.ref a_y, .int p_c, .int p_h, .int p_w] (g5_P G [(a_y, .inr (12, [.int 0, .int 0, .ref a_1, .ref a_2, .ref a_3, .ref a_4, .int 0, .ref a_5, .int 0, .int 0, .int 0, .int 0, .long 0, .int (-1), .int 0, .int 0, .ref a_6, .int 0, .ref a_7, .ref a_8, .int 0, .ref a_9, .ref a_10, .int 0, .int 0, .ref a_11, .ref a_12, .int 0, .ref a_13, .ref a_14, .int 0, .long 0, .long 0, .int 0, .int 0, .int 0, .int 0, .int 0, .ref a_15, .int 0, .int 0, .ref a_16, .int 0, .ref a_17, .ref a_18, .ref a_19, .int 0, .ref a_20, .ref a_21, .long 0, .ref a_22, .int 0])), (a_2, .inl (G.2 0, 5740, .inl (upd (upd (upd (fun _ => 0) 3 (-1)) 4 1000) 6 (-1)))), (a_15, .inl (G.2 0, 200, .inl (fun _ => 0))), (a_16, .inl (G.2 2, 1536, .inl (fun _ => 0)))] sz)) (va_Qi (fun (r : Int32) (u : va_W) => (∃ (o_r : Int32), (o_r.toInt = sp_lit p_c.toInt p_h.toInt p_w.toInt) ∧ (r = o_r) ∧ (u = []))) (g5_B G (va_A [(a_y, .inr (12, [.int 0, .int 0, .ref a_1, .ref a_2, .ref a_3, .ref a_4, .int 0, .ref a_5, .int 0, .int 0, .int 0, .int 0, .long 0, .int (-1), .int 0, .int 0, .ref a_6, .int 0, .ref a_7, .ref a_8, .int 0, .ref a_9, .ref a_10, .int 0, .int 0, .ref a_11, .ref a_12, .int 0, .ref a_13, .ref a_14, .int 0, .long 0, .long 0, .int 0, .int 0, .int 0, .int 0, .int 0, .ref a_15, .int 0, .int 0, .ref a_16, .int 0, .ref a_17, .ref a_18, .ref a_19, .int 0, .ref a_20, .ref a_21, .long 0, .ref a_22, .int 0])), (a_2, .inl (G.2 0, 5740, .inl (upd (upd (upd (fun _ => 0) 3 (-1)) 4 1000) 6 (-1)))), (a_15, .inl (G.2 0, 200, .inl (fun _ => 0))), (a_16, .inl (G.2 2, 1536, .inl (fun _ => 0)))] sz)) (va_A [(a_y, .inr (12, [.int 0, .int 0, .ref a_1, .ref a_2, .ref a_3, .ref a_4, .int 0, .ref a_5, .int 0, .int 0, .int 0, .int 0, .long 0, .int (-1), .int 0, .int 0, .ref a_6, .int 0, .ref a_7, .ref a_8, .int 0, .ref a_9, .ref a_10, .int 0, .int 0, .ref a_11, .ref a_12, .int 0, .ref a_13, .ref a_14, .int 0, .long 0, .long 0, .int 0, .int 0, .int 0, .int 0, .int 0, .ref a_15, .int 0, .int 0, .ref a_16, .int 0, .ref a_17, .ref a_18, .ref a_19, .int 0, .ref a_20, .ref a_21, .long 0, .ref a_22, .int 0])), (a_2, .inl (G.2 0, 5740, .inl (upd (upd (upd (fun _ => 0) 3 (-1)) 4 1000) 6 (-1)))), (a_15, .inl (G.2 0, 200, .inl (fun _ => 0))), (a_16, .inl (G.2 2, 1536, .inl (fun _ => 0)))] sz)) 0 0 (va_A [(a_y, .inr (12, [.int 0, .int 0, .ref a_1, .ref a_2, .ref a_3, .ref a_4, .int 0, .ref a_5, .int 0, .int 0, .int 0, .int 0, .long 0, .int (-1), .int 0, .int 0, .ref a_6, .int 0, .ref a_7, .ref a_8, .int 0, .ref a_9, .ref a_10, .int 0, .int 0, .ref a_11, .ref a_12, .int 0, .ref a_13, .ref a_14, .int 0, .long 0, .long 0, .int 0, .int 0, .int 0, .int 0, .int 0, .ref a_15, .int 0, .int 0, .ref a_16, .int 0, .ref a_17, .ref a_18, .ref a_19, .int 0, .ref a_20, .ref a_21, .long 0, .ref a_22, .int 0])), (a_2, .inl (G.2 0, 5740, .inl (upd (upd (upd (fun _ => 0) 3 (-1)) 4 1000) 6 (-1)))), (a_15, .inl (G.2 0, 200, .inl (fun _ => 0))), (a_16, .inl (G.2 2, 1536, .inl (fun _ => 0)))] sz) := by
  refine Met.ofW (cc := cX12_lit) (maxL := 8) (ret := (some .int)) (by decide) rfl ?_
  intro p e s m args below meth c s₁ B hml hv
  obtain ⟨rfl, hsz, hP, hK, hD0, hN, hT⟩ := hv
  have hx := B.exec
  have hb := B.bytes
  have hr := B.returns
  have hts : ∀ w ∈ tblG, w.before _ s = true := fun w h => atoms_spec (ws := (wsG yX12_lit cX12_lit 8 (some .int))) B.pre w (List.mem_cons_of_mem _ h)
  have hown : s.vm.findClass RX12 = some m.cls := findClass_of_methodNamed B.named
  have hlocks := B.notSynchronized
  subst hsz
  have hD := hD0.self (sz := s.heap.size)
  generalize hAe : va_A [(a_y, .inr (12, [.int 0, .int 0, .ref a_1, .ref a_2, .ref a_3, .ref a_4, .int 0, .ref a_5, .int 0, .int 0, .int 0, .int 0, .long 0, .int (-1), .int 0, .int 0, .ref a_6, .int 0, .ref a_7, .ref a_8, .int 0, .ref a_9, .ref a_10, .int 0, .int 0, .ref a_11, .ref a_12, .int 0, .ref a_13, .ref a_14, .int 0, .long 0, .long 0, .int 0, .int 0, .int 0, .int 0, .int 0, .ref a_15, .int 0, .int 0, .ref a_16, .int 0, .ref a_17, .ref a_18, .ref a_19, .int 0, .ref a_20, .ref a_21, .long 0, .ref a_22, .int 0])), (a_2, .inl (G.2 0, 5740, .inl (upd (upd (upd (fun _ => 0) 3 (-1)) 4 1000) 6 (-1)))), (a_15, .inl (G.2 0, 200, .inl (fun _ => 0))), (a_16, .inl (G.2 2, 1536, .inl (fun _ => 0)))] s.heap.size = A at hD hT ⊢
  have hA : ∀ q : Nat, s.heap.size ≤ q → A q := fun q h => by rw [← hAe]; exact Or.inr h
  have hS : va_S A s.heap s.heap [] := va_S.rf
  have hP : va_P G.1 vwCl [(a_y, .inr (12, [.int 0, .int 0, .ref a_1, .ref a_2, .ref a_3, .ref a_4, .int 0, .ref a_5, .int 0, .int 0, .int 0, .int 0, .long 0, .int (-1), .int 0, .int 0, .ref a_6, .int 0, .ref a_7, .ref a_8, .int 0, .ref a_9, .ref a_10, .int 0, .int 0, .ref a_11, .ref a_12, .int 0, .ref a_13, .ref a_14, .int 0, .long 0, .long 0, .int 0, .int 0, .int 0, .int 0, .int 0, .ref a_15, .int 0, .int 0, .ref a_16, .int 0, .ref a_17, .ref a_18, .ref a_19, .int 0, .ref a_20, .ref a_21, .long 0, .ref a_22, .int 0])), (a_2, .inl (G.2 0, 5740, .inl (upd (upd (upd (fun _ => 0) 3 (-1)) 4 1000) 6 (-1)))), (a_15, .inl (G.2 0, 200, .inl (fun _ => 0))), (a_16, .inl (G.2 2, 1536, .inl (fun _ => 0)))] s.heap := hP
  have hl := lv_entry ([.ref a_y, .int p_c, .int p_h, .int p_w]) (n := 8) (Nat.le_of_ble_eq_true rfl)
  rw [lg_entry_eq]
  generalize (lg_sl ([.ref a_y, .int p_c, .int p_h, .int p_w]) ++ List.replicate (8 - (lg_sl ([.ref a_y, .int p_c, .int p_h, .int p_w])).length) Slot.unset).toArray = ls at hl ⊢
  have hl : lv_has ls 8 [(0, .ref a_y), (1, .int p_c), (2, .int p_h), (3, .int p_w)] := hl
  refine lv_aload_n hx hb dX12_lit_0 rfl (lv_at hl 0 rfl) ?_
  refine lv_iconst (v := 0) hx hb dX12_lit_1 (by decide) ?_
  refine va_put (D := G.1) (ci := 12) (v := .int 0) (ty := .int) (C := RX12) (T := TX12) (N := 52) hx hb hts inG_X12 tyX12 tyX12_ok nmX12 hown hK hP hD hS 0 rfl rfl 0 (by decide) (hts _ fl_X12_107) (fun _ h9 => h9) rfl (by decide +kernel) rfl rfl (Nat.le_of_ble_eq_true rfl) dX12_lit_2 (fun H locs hP hD hS => ?_)
  have hP : va_P G.1 vwCl [(a_y, .inr (12, [.int 0, .int 0, .ref a_1, .ref a_2, .ref a_3, .ref a_4, .int 0, .ref a_5, .int 0, .int 0, .int 0, .int 0, .long 0, .int (-1), .int 0, .int 0, .ref a_6, .int 0, .ref a_7, .ref a_8, .int 0, .ref a_9, .ref a_10, .int 0, .int 0, .ref a_11, .ref a_12, .int 0, .ref a_13, .ref a_14, .int 0, .long 0, .long 0, .int 0, .int 0, .int 0, .int 0, .int 0, .ref a_15, .int 0, .int 0, .ref a_16, .int 0, .ref a_17, .ref a_18, .ref a_19, .int 0, .ref a_20, .ref a_21, .long 0, .ref a_22, .int 0])), (a_2, .inl (G.2 0, 5740, .inl (upd (upd (upd (fun _ => 0) 3 (-1)) 4 1000) 6 (-1)))), (a_15, .inl (G.2 0, 200, .inl (fun _ => 0))), (a_16, .inl (G.2 2, 1536, .inl (fun _ => 0)))] H := hP
  have hD : va_D A [(a_y, .inr (12, [.int 0, .int 0, .ref a_1, .ref a_2, .ref a_3, .ref a_4, .int 0, .ref a_5, .int 0, .int 0, .int 0, .int 0, .long 0, .int (-1), .int 0, .int 0, .ref a_6, .int 0, .ref a_7, .ref a_8, .int 0, .ref a_9, .ref a_10, .int 0, .int 0, .ref a_11, .ref a_12, .int 0, .ref a_13, .ref a_14, .int 0, .long 0, .long 0, .int 0, .int 0, .int 0, .int 0, .int 0, .ref a_15, .int 0, .int 0, .ref a_16, .int 0, .ref a_17, .ref a_18, .ref a_19, .int 0, .ref a_20, .ref a_21, .long 0, .ref a_22, .int 0])), (a_2, .inl (G.2 0, 5740, .inl (upd (upd (upd (fun _ => 0) 3 (-1)) 4 1000) 6 (-1)))), (a_15, .inl (G.2 0, 200, .inl (fun _ => 0))), (a_16, .inl (G.2 2, 1536, .inl (fun _ => 0)))] := hD
  refine lv_iload_n hx hb dX12_lit_5 rfl (lv_at hl 1 rfl) ?_
  have hPc := hP.sub (ws' := []) [] rfl
  have hDc := hD.sub (ws' := []) [] (by decide) rfl
  have hFc := va_free (wc := []) hD hS hA [] rfl
  refine va_calli (va_runS (As := [.int p_c]) (rest := []) ⟨hx, hb, hml, hown, hts⟩ (kX12_isCell l G H.size p_c) (va_cwS 1 hts gS_X12_138 rfl rfl rfl hs_X12_isCell ⟨Nat.le_of_ble_eq_true rfl, Nat.le_of_ble_eq_true rfl⟩) (g5_preS hPc hK hDc hN hT hS hFc) rfl rfl hl.1 rfl (lv_room (Nat.le_of_ble_eq_true rfl)) dX12_lit_6 ⟨Nat.le_of_ble_eq_true rfl, Nat.le_of_ble_eq_true rfl⟩) hS (fun q _ h => hFc q h) hFc (fun r u t H1 locs ht hvm hw hB hz1 hk1 hS => ?_)
  obtain ⟨hP1, hD1⟩ := hB
  rw [ht] at hP1
  rcases hw with ⟨i_1, rfl, rfl⟩ | ⟨i_2, rfl, rfl⟩
  ·
    have hP := g5_same hP hk1
    generalize H1 = H at hP hS ⊢
    refine lv_if_eq (tgt := 33) hx hb dX12_lit_9 (by decide) (fun c_3 => ?_) (fun c_3 => ?_)
    ·
      refine lv_iconst (v := (-1)) hx hb dX12_lit_33 (by decide) ?_
      exact W.iret (v := (-1)) hx hb hr (fun t ht hW => ⟨⟨(-1), [], rfl, ⟨(-1), by have z : ((-1) : Int32).toInt = -1 := (by decide); unfold sp_lit; omega, rfl, rfl⟩, by rw [ht]; exact hP.sub [] rfl, hD.sub [] (by decide) rfl⟩, hS.F ht⟩) hS.2.2 dX12_lit_34
    ·
      exact absurd c_3 (by decide)
  ·
    have hP := g5_same hP hk1
    generalize H1 = H at hP hS ⊢
    refine lv_if_eq (tgt := 33) hx hb dX12_lit_9 (by decide) (fun c_4 => ?_) (fun c_4 => ?_)
    ·
      exact absurd c_4 (by decide)
    ·
      refine lv_iload_n hx hb dX12_lit_12 rfl (lv_at hl 2 rfl) ?_
      have hPc := hP.sub (ws' := []) [] rfl
      have hDc := hD.sub (ws' := []) [] (by decide) rfl
      have hFc := va_free (wc := []) hD hS hA [] rfl
      refine va_calli (va_runS (As := [.int p_h]) (rest := []) ⟨hx, hb, hml, hown, hts⟩ (kX12_isHour l G H.size p_h) (va_cwS 1 hts gS_X12_175 rfl rfl rfl hs_X12_isHour ⟨Nat.le_of_ble_eq_true rfl, Nat.le_of_ble_eq_true rfl⟩) (g5_preS hPc hK hDc hN hT hS hFc) rfl rfl hl.1 rfl (lv_room (Nat.le_of_ble_eq_true rfl)) dX12_lit_13 ⟨Nat.le_of_ble_eq_true rfl, Nat.le_of_ble_eq_true rfl⟩) hS (fun q _ h => hFc q h) hFc (fun r u t H1 locs ht hvm hw hB hz1 hk1 hS => ?_)
      obtain ⟨hP1, hD1⟩ := hB
      rw [ht] at hP1
      rcases hw with ⟨i_5, rfl, rfl⟩ | ⟨i_6, rfl, rfl⟩
      ·
        have hP := g5_same hP hk1
        generalize H1 = H at hP hS ⊢
        refine lv_if_eq (tgt := 33) hx hb dX12_lit_16 (by decide) (fun c_7 => ?_) (fun c_7 => ?_)
        ·
          refine lv_iconst (v := (-1)) hx hb dX12_lit_33 (by decide) ?_
          exact W.iret (v := (-1)) hx hb hr (fun t ht hW => ⟨⟨(-1), [], rfl, ⟨(-1), by have z : ((-1) : Int32).toInt = -1 := (by decide); unfold sp_lit; omega, rfl, rfl⟩, by rw [ht]; exact hP.sub [] rfl, hD.sub [] (by decide) rfl⟩, hS.F ht⟩) hS.2.2 dX12_lit_34
        ·
          exact absurd c_7 (by decide)
      ·
        have hP := g5_same hP hk1
        generalize H1 = H at hP hS ⊢
        refine lv_if_eq (tgt := 33) hx hb dX12_lit_16 (by decide) (fun c_8 => ?_) (fun c_8 => ?_)
        ·
          exact absurd c_8 (by decide)
        ·
          refine lv_iload_n hx hb dX12_lit_19 rfl (lv_at hl 3 rfl) ?_
          refine lv_i2l (v := p_w.toInt64) hx hb dX12_lit_20 rfl ?_
          refine lv_ldc2 (v := (-1)) hx hb hown (hts _ kl_X12_178) dX12_lit_21 ?_
          refine lv_ldc2 (v := 63) hx hb hown (hts _ kl_X12_128) dX12_lit_24 ?_
          have hPc := hP.sub (ws' := []) [] rfl
          have hDc := hD.sub (ws' := []) [] (by decide) rfl
          have hFc := va_free (wc := []) hD hS hA [] rfl
          refine va_calli (va_runS (As := [.long p_w.toInt64, .long (-1), .long 63]) (rest := []) ⟨hx, hb, hml, hown, hts⟩ (k_in_m1_63 l G H.size p_w) (va_cwS 3 hts gS_X12_121 rfl rfl rfl hs_X12_in ⟨Nat.le_of_ble_eq_true rfl, Nat.le_of_ble_eq_true rfl⟩) (g5_preS hPc hK hDc hN hT hS hFc) rfl rfl hl.1 rfl (lv_room (Nat.le_of_ble_eq_true rfl)) dX12_lit_27 ⟨Nat.le_of_ble_eq_true rfl, Nat.le_of_ble_eq_true rfl⟩) hS (fun q _ h => hFc q h) hFc (fun r u t H1 locs ht hvm hw hB hz1 hk1 hS => ?_)
          obtain ⟨hP1, hD1⟩ := hB
          rw [ht] at hP1
          rcases hw with ⟨i_9, rfl, rfl⟩ | ⟨i_10, rfl, rfl⟩
          ·
            have i_9 : p_w.toInt < (-1) ∨ 63 < p_w.toInt := i_9
            have hP := g5_same hP hk1
            generalize H1 = H at hP hS ⊢
            refine lv_if_ne (tgt := 35) hx hb dX12_lit_30 (by decide) (fun c_11 => ?_) (fun c_11 => ?_)
            ·
              exact absurd c_11 (by decide)
            ·
              refine lv_iconst (v := (-1)) hx hb dX12_lit_33 (by decide) ?_
              exact W.iret (v := (-1)) hx hb hr (fun t ht hW => ⟨⟨(-1), [], rfl, ⟨(-1), by have z : ((-1) : Int32).toInt = -1 := (by decide); unfold sp_lit; omega, rfl, rfl⟩, by rw [ht]; exact hP.sub [] rfl, hD.sub [] (by decide) rfl⟩, hS.F ht⟩) hS.2.2 dX12_lit_34
          ·
            have i_10 : (-1) ≤ p_w.toInt ∧ p_w.toInt ≤ 63 := i_10
            have hP := g5_same hP hk1
            generalize H1 = H at hP hS ⊢
            refine lv_if_ne (tgt := 35) hx hb dX12_lit_30 (by decide) (fun c_12 => ?_) (fun c_12 => ?_)
            ·
              refine lv_aload_n hx hb dX12_lit_35 rfl (lv_at hl 0 rfl) ?_
              have hPc := hP.sub (ws' := [(a_y, .inr (12, [.int 0, .int 0, .ref a_1, .ref a_2, .ref a_3, .ref a_4, .int 0, .ref a_5, .int 0, .int 0, .int 0, .int 0, .long 0, .int (-1), .int 0, .int 0, .ref a_6, .int 0, .ref a_7, .ref a_8, .int 0, .ref a_9, .ref a_10, .int 0, .int 0, .ref a_11, .ref a_12, .int 0, .ref a_13, .ref a_14, .int 0, .long 0, .long 0, .int 0, .int 0, .int 0, .int 0, .int 0, .ref a_15, .int 0, .int 0, .ref a_16, .int 0, .ref a_17, .ref a_18, .ref a_19, .int 0, .ref a_20, .ref a_21, .long 0, .ref a_22, .int 0])), (a_16, .inl (G.2 2, 1536, .inl (fun _ => 0)))]) [0, 3] rfl
              have hDc := hD.sub (ws' := [(a_y, .inr (12, [.int 0, .int 0, .ref a_1, .ref a_2, .ref a_3, .ref a_4, .int 0, .ref a_5, .int 0, .int 0, .int 0, .int 0, .long 0, .int (-1), .int 0, .int 0, .ref a_6, .int 0, .ref a_7, .ref a_8, .int 0, .ref a_9, .ref a_10, .int 0, .int 0, .ref a_11, .ref a_12, .int 0, .ref a_13, .ref a_14, .int 0, .long 0, .long 0, .int 0, .int 0, .int 0, .int 0, .int 0, .ref a_15, .int 0, .int 0, .ref a_16, .int 0, .ref a_17, .ref a_18, .ref a_19, .int 0, .ref a_20, .ref a_21, .long 0, .ref a_22, .int 0])), (a_16, .inl (G.2 2, 1536, .inl (fun _ => 0)))]) [0, 3] (by decide) rfl
              have hFc := va_free (wc := [(a_y, .inr (12, [.int 0, .int 0, .ref a_1, .ref a_2, .ref a_3, .ref a_4, .int 0, .ref a_5, .int 0, .int 0, .int 0, .int 0, .long 0, .int (-1), .int 0, .int 0, .ref a_6, .int 0, .ref a_7, .ref a_8, .int 0, .ref a_9, .ref a_10, .int 0, .int 0, .ref a_11, .ref a_12, .int 0, .ref a_13, .ref a_14, .int 0, .long 0, .long 0, .int 0, .int 0, .int 0, .int 0, .int 0, .ref a_15, .int 0, .int 0, .ref a_16, .int 0, .ref a_17, .ref a_18, .ref a_19, .int 0, .ref a_20, .ref a_21, .long 0, .ref a_22, .int 0])), (a_16, .inl (G.2 2, 1536, .inl (fun _ => 0)))]) hD hS hA [0, 3] rfl
              refine va_callv (va_runV (As := []) (rest := []) ⟨hx, hb, hml, hown, hts⟩ (k_clearPoints l G a_y a_16 a_1 a_2 a_3 a_4 a_5 a_6 a_7 a_8 a_9 a_10 a_11 a_12 a_13 a_14 a_15 a_17 a_18 a_19 a_20 a_21 a_22 H.size 0 0 0 0 0 0 0 0 0 (fun _ => 0) ⟨by decide, by decide⟩) (cwV 0 hts gV_X12_413 rfl rfl rfl hv_X12_clearPoints ⟨Nat.le_of_ble_eq_true rfl, Nat.le_of_ble_eq_true rfl⟩) (g5_preV hPc hK hDc hN hT hS hFc (ci := 12) (q0 := 0) rfl rfl) rfl rfl hl.1 rfl (lv_room (Nat.le_of_ble_eq_true rfl)) dX12_lit_36 ⟨Nat.le_of_ble_eq_true rfl, Nat.le_of_ble_eq_true rfl⟩) hS (fun q _ h => hFc q h) hFc (fun u t H1 locs ht hvm hw hB hz1 hk1 hS => ?_)
              obtain ⟨hP1, hD1⟩ := hB
              rw [ht] at hP1
              obtain rfl := hw
              obtain ⟨hP, hD⟩ := va_join (wr := [(a_2, .inl (G.2 0, 5740, .inl (upd (upd (upd (fun _ => 0) 3 (-1)) 4 1000) 6 (-1)))), (a_15, .inl (G.2 0, 200, .inl (fun _ => 0)))]) (w1 := [(a_y, .inr (12, [.int 0, .int 0, .ref a_1, .ref a_2, .ref a_3, .ref a_4, .int 0, .ref a_5, .int 0, .int 0, .int 0, .int 0, .long 0, .int (-1), .int 0, .int 0, .ref a_6, .int 0, .ref a_7, .ref a_8, .int 0, .ref a_9, .ref a_10, .int 0, .int 0, .ref a_11, .ref a_12, .int 0, .ref a_13, .ref a_14, .int 0, .long 0, .long 0, .int 0, .int 0, .int 0, .int 0, .int 0, .ref a_15, .int 0, .int 0, .ref a_16, .int 0, .ref a_17, .ref a_18, .ref a_19, .int 0, .ref a_20, .ref a_21, .long 0, .ref a_22, .int 0])), (a_16, .inl (G.2 2, 1536, .inl (fun _ => 0)))]) hP hD [0, 3] [1, 2] rfl rfl (by decide) (by decide) hk1 hFc hP1 hD1
              generalize H1 = H at hP hS ⊢
              have hP : va_P G.1 vwCl [(a_2, .inl (G.2 0, 5740, .inl (upd (upd (upd (fun _ => 0) 3 (-1)) 4 1000) 6 (-1)))), (a_15, .inl (G.2 0, 200, .inl (fun _ => 0))), (a_y, .inr (12, [.int 0, .int 0, .ref a_1, .ref a_2, .ref a_3, .ref a_4, .int 0, .ref a_5, .int 0, .int 0, .int 0, .int 0, .long 0, .int (-1), .int 0, .int 0, .ref a_6, .int 0, .ref a_7, .ref a_8, .int 0, .ref a_9, .ref a_10, .int 0, .int 0, .ref a_11, .ref a_12, .int 0, .ref a_13, .ref a_14, .int 0, .long 0, .long 0, .int 0, .int 0, .int 0, .int 0, .int 0, .ref a_15, .int 0, .int 0, .ref a_16, .int 0, .ref a_17, .ref a_18, .ref a_19, .int 0, .ref a_20, .ref a_21, .long 0, .ref a_22, .int 0])), (a_16, .inl (G.2 2, 1536, .inl (fun _ => 0)))] H := hP
              have hD : va_D A [(a_2, .inl (G.2 0, 5740, .inl (upd (upd (upd (fun _ => 0) 3 (-1)) 4 1000) 6 (-1)))), (a_15, .inl (G.2 0, 200, .inl (fun _ => 0))), (a_y, .inr (12, [.int 0, .int 0, .ref a_1, .ref a_2, .ref a_3, .ref a_4, .int 0, .ref a_5, .int 0, .int 0, .int 0, .int 0, .long 0, .int (-1), .int 0, .int 0, .ref a_6, .int 0, .ref a_7, .ref a_8, .int 0, .ref a_9, .ref a_10, .int 0, .int 0, .ref a_11, .ref a_12, .int 0, .ref a_13, .ref a_14, .int 0, .long 0, .long 0, .int 0, .int 0, .int 0, .int 0, .int 0, .ref a_15, .int 0, .int 0, .ref a_16, .int 0, .ref a_17, .ref a_18, .ref a_19, .int 0, .ref a_20, .ref a_21, .long 0, .ref a_22, .int 0])), (a_16, .inl (G.2 2, 1536, .inl (fun _ => 0)))] := hD
              refine lv_aload_n hx hb dX12_lit_39 rfl (lv_at hl 0 rfl) ?_
              refine lv_iload_n hx hb dX12_lit_40 rfl (lv_at hl 1 rfl) ?_
              refine lv_iload_n hx hb dX12_lit_41 rfl (lv_at hl 2 rfl) ?_
              have hPc := hP.sub (ws' := [(a_y, .inr (12, [.int 0, .int 0, .ref a_1, .ref a_2, .ref a_3, .ref a_4, .int 0, .ref a_5, .int 0, .int 0, .int 0, .int 0, .long 0, .int (-1), .int 0, .int 0, .ref a_6, .int 0, .ref a_7, .ref a_8, .int 0, .ref a_9, .ref a_10, .int 0, .int 0, .ref a_11, .ref a_12, .int 0, .ref a_13, .ref a_14, .int 0, .long 0, .long 0, .int 0, .int 0, .int 0, .int 0, .int 0, .ref a_15, .int 0, .int 0, .ref a_16, .int 0, .ref a_17, .ref a_18, .ref a_19, .int 0, .ref a_20, .ref a_21, .long 0, .ref a_22, .int 0])), (a_2, .inl (G.2 0, 5740, .inl (upd (upd (upd (fun _ => 0) 3 (-1)) 4 1000) 6 (-1)))), (a_15, .inl (G.2 0, 200, .inl (fun _ => 0))), (a_16, .inl (G.2 2, 1536, .inl (fun _ => 0)))]) [2, 0, 1, 3] rfl
              have hDc := hD.sub (ws' := [(a_y, .inr (12, [.int 0, .int 0, .ref a_1, .ref a_2, .ref a_3, .ref a_4, .int 0, .ref a_5, .int 0, .int 0, .int 0, .int 0, .long 0, .int (-1), .int 0, .int 0, .ref a_6, .int 0, .ref a_7, .ref a_8, .int 0, .ref a_9, .ref a_10, .int 0, .int 0, .ref a_11, .ref a_12, .int 0, .ref a_13, .ref a_14, .int 0, .long 0, .long 0, .int 0, .int 0, .int 0, .int 0, .int 0, .ref a_15, .int 0, .int 0, .ref a_16, .int 0, .ref a_17, .ref a_18, .ref a_19, .int 0, .ref a_20, .ref a_21, .long 0, .ref a_22, .int 0])), (a_2, .inl (G.2 0, 5740, .inl (upd (upd (upd (fun _ => 0) 3 (-1)) 4 1000) 6 (-1)))), (a_15, .inl (G.2 0, 200, .inl (fun _ => 0))), (a_16, .inl (G.2 2, 1536, .inl (fun _ => 0)))]) [2, 0, 1, 3] (by decide) rfl
              have hFc := va_free (wc := [(a_y, .inr (12, [.int 0, .int 0, .ref a_1, .ref a_2, .ref a_3, .ref a_4, .int 0, .ref a_5, .int 0, .int 0, .int 0, .int 0, .long 0, .int (-1), .int 0, .int 0, .ref a_6, .int 0, .ref a_7, .ref a_8, .int 0, .ref a_9, .ref a_10, .int 0, .int 0, .ref a_11, .ref a_12, .int 0, .ref a_13, .ref a_14, .int 0, .long 0, .long 0, .int 0, .int 0, .int 0, .int 0, .int 0, .ref a_15, .int 0, .int 0, .ref a_16, .int 0, .ref a_17, .ref a_18, .ref a_19, .int 0, .ref a_20, .ref a_21, .long 0, .ref a_22, .int 0])), (a_2, .inl (G.2 0, 5740, .inl (upd (upd (upd (fun _ => 0) 3 (-1)) 4 1000) 6 (-1)))), (a_15, .inl (G.2 0, 200, .inl (fun _ => 0))), (a_16, .inl (G.2 2, 1536, .inl (fun _ => 0)))]) hD hS hA [2, 0, 1, 3] rfl
              refine va_callv (va_runV (As := [.int p_c, .int p_h]) (rest := []) ⟨hx, hb, hml, hown, hts⟩ (k_mark l G a_y a_2 a_15 a_16 a_1 a_3 a_4 a_5 a_6 a_7 a_8 a_9 a_10 a_11 a_12 a_13 a_14 a_17 a_18 a_19 a_20 a_21 a_22 H.size p_c p_h 0 0 0 0 0 0 0 (fun _ => 0) (fun _ => 0) ⟨by omega, by omega⟩ ⟨by omega, by omega⟩) (cwV 2 hts gV_X12_416 rfl rfl rfl hv_X12_mark ⟨Nat.le_of_ble_eq_true rfl, Nat.le_of_ble_eq_true rfl⟩) (g5_preV hPc hK hDc hN hT hS hFc (ci := 12) (q0 := 0) rfl rfl) rfl rfl hl.1 rfl (lv_room (Nat.le_of_ble_eq_true rfl)) dX12_lit_42 ⟨Nat.le_of_ble_eq_true rfl, Nat.le_of_ble_eq_true rfl⟩) hS (fun q _ h => hFc q h) hFc (fun u t H1 locs ht hvm hw hB hz1 hk1 hS => ?_)
              obtain ⟨hP1, hD1⟩ := hB
              rw [ht] at hP1
              obtain ⟨z16, z17, z18, i_13, i_14, i_15, rfl⟩ := hw
              have i_13 : 0 ≤ z16.toInt ∧ z16.toInt ≤ 63 := i_13
              have i_14 : 0 ≤ z17.toInt ∧ z17.toInt ≤ 7 := i_14
              have i_15 : z18 = ptF (ptF (ptF (ptF ((fun _ => 0)) p_h.toInt (gW 0 p_c.toInt) (nW 0 p_c.toInt).toNat) p_h.toInt (gW 1 p_c.toInt) (nW 1 p_c.toInt).toNat) p_h.toInt (gW 2 p_c.toInt) (nW 2 p_c.toInt).toNat) p_h.toInt (gW 3 p_c.toInt) (nW 3 p_c.toInt).toNat := i_15
              obtain ⟨hP, hD⟩ := va_join (wr := []) (w1 := [(a_y, .inr (12, [.int 0, .int 0, .ref a_1, .ref a_2, .ref a_3, .ref a_4, .int 0, .ref a_5, .int 0, .int 0, .int 0, .int 0, .long 0, .int (-1), .int 0, .int 0, .ref a_6, .int 0, .ref a_7, .ref a_8, .int 0, .ref a_9, .ref a_10, .int 0, .int 0, .ref a_11, .ref a_12, .int 0, .ref a_13, .ref a_14, .int 0, .long 0, .long 0, .int z16, .int p_h, .int 3, .int 1000000, .int z17, .ref a_15, .int 0, .int (-1), .ref a_16, .int 0, .ref a_17, .ref a_18, .ref a_19, .int 0, .ref a_20, .ref a_21, .long 0, .ref a_22, .int 0])), (a_2, .inl (G.2 0, 5740, .inl (upd (upd (upd (fun _ => 0) 3 (-1)) 4 1000) 6 (-1)))), (a_16, .inl (G.2 2, 1536, .inl z18))]) hP hD [2, 0, 1, 3] [] rfl rfl (by decide) (by decide) hk1 hFc hP1 hD1
              generalize H1 = H at hP hS ⊢
              have hP : va_P G.1 vwCl [(a_y, .inr (12, [.int 0, .int 0, .ref a_1, .ref a_2, .ref a_3, .ref a_4, .int 0, .ref a_5, .int 0, .int 0, .int 0, .int 0, .long 0, .int (-1), .int 0, .int 0, .ref a_6, .int 0, .ref a_7, .ref a_8, .int 0, .ref a_9, .ref a_10, .int 0, .int 0, .ref a_11, .ref a_12, .int 0, .ref a_13, .ref a_14, .int 0, .long 0, .long 0, .int z16, .int p_h, .int 3, .int 1000000, .int z17, .ref a_15, .int 0, .int (-1), .ref a_16, .int 0, .ref a_17, .ref a_18, .ref a_19, .int 0, .ref a_20, .ref a_21, .long 0, .ref a_22, .int 0])), (a_2, .inl (G.2 0, 5740, .inl (upd (upd (upd (fun _ => 0) 3 (-1)) 4 1000) 6 (-1)))), (a_16, .inl (G.2 2, 1536, .inl z18))] H := hP
              have hD : va_D A [(a_y, .inr (12, [.int 0, .int 0, .ref a_1, .ref a_2, .ref a_3, .ref a_4, .int 0, .ref a_5, .int 0, .int 0, .int 0, .int 0, .long 0, .int (-1), .int 0, .int 0, .ref a_6, .int 0, .ref a_7, .ref a_8, .int 0, .ref a_9, .ref a_10, .int 0, .int 0, .ref a_11, .ref a_12, .int 0, .ref a_13, .ref a_14, .int 0, .long 0, .long 0, .int z16, .int p_h, .int 3, .int 1000000, .int z17, .ref a_15, .int 0, .int (-1), .ref a_16, .int 0, .ref a_17, .ref a_18, .ref a_19, .int 0, .ref a_20, .ref a_21, .long 0, .ref a_22, .int 0])), (a_2, .inl (G.2 0, 5740, .inl (upd (upd (upd (fun _ => 0) 3 (-1)) 4 1000) 6 (-1)))), (a_16, .inl (G.2 2, 1536, .inl z18))] := hD
              refine lv_iconst (v := 0) hx hb dX12_lit_45 (by decide) ?_
              refine lv_istore (lv' := [(4, .int 0), (0, .ref a_y), (1, .int p_c), (2, .int p_h), (3, .int p_w)]) hx hb dX12_lit_46 hl (by decide) rfl (fun ls hl => ?_)
              refine lv_iconst (v := 0) hx hb dX12_lit_48 (by decide) ?_
              refine lv_istore (lv' := [(5, .int 0), (4, .int 0), (0, .ref a_y), (1, .int p_c), (2, .int p_h), (3, .int p_w)]) hx hb dX12_lit_49 hl (by decide) rfl (fun ls hl => ?_)
              refine g5_loop (α := (Int32) × (Int32)) (fun (q : (Int32) × (Int32)) (ls : Array Slot) (H : Heap) (locs : List Loc) => match q with | (k_c, k_n) => lv_has ls 8 [(4, .int k_n), (5, .int k_c), (0, .ref a_y), (1, .int p_c), (2, .int p_h), (3, .int p_w)] ∧ va_P G.1 vwCl [(a_y, .inr (12, [.int 0, .int 0, .ref a_1, .ref a_2, .ref a_3, .ref a_4, .int 0, .ref a_5, .int 0, .int 0, .int 0, .int 0, .long 0, .int (-1), .int 0, .int 0, .ref a_6, .int 0, .ref a_7, .ref a_8, .int 0, .ref a_9, .ref a_10, .int 0, .int 0, .ref a_11, .ref a_12, .int 0, .ref a_13, .ref a_14, .int 0, .long 0, .long 0, .int z16, .int p_h, .int 3, .int 1000000, .int z17, .ref a_15, .int 0, .int (-1), .ref a_16, .int 0, .ref a_17, .ref a_18, .ref a_19, .int 0, .ref a_20, .ref a_21, .long 0, .ref a_22, .int 0])), (a_2, .inl (G.2 0, 5740, .inl (upd (upd (upd (fun _ => 0) 3 (-1)) 4 1000) 6 (-1)))), (a_16, .inl (G.2 2, 1536, .inl z18))] H ∧ va_D A [(a_y, .inr (12, [.int 0, .int 0, .ref a_1, .ref a_2, .ref a_3, .ref a_4, .int 0, .ref a_5, .int 0, .int 0, .int 0, .int 0, .long 0, .int (-1), .int 0, .int 0, .ref a_6, .int 0, .ref a_7, .ref a_8, .int 0, .ref a_9, .ref a_10, .int 0, .int 0, .ref a_11, .ref a_12, .int 0, .ref a_13, .ref a_14, .int 0, .long 0, .long 0, .int z16, .int p_h, .int 3, .int 1000000, .int z17, .ref a_15, .int 0, .int (-1), .ref a_16, .int 0, .ref a_17, .ref a_18, .ref a_19, .int 0, .ref a_20, .ref a_21, .long 0, .ref a_22, .int 0])), (a_2, .inl (G.2 0, 5740, .inl (upd (upd (upd (fun _ => 0) 3 (-1)) 4 1000) 6 (-1)))), (a_16, .inl (G.2 2, 1536, .inl z18))] ∧ va_S A s.heap H locs ∧ (0 ≤ k_c.toInt ∧ k_c.toInt ≤ 64) ∧ (0 ≤ k_n.toInt ∧ k_n.toInt ≤ 64) ∧ (k_n.toInt ≤ k_c.toInt) ∧ (k_n.toInt = cntM z18 p_w.toInt k_c.toInt.toNat)) (fun (q : (Int32) × (Int32)) => match q with | (k_c, k_n) => Int.toNat (64 - k_c.toInt)) (0, 0) ⟨lv_sub hl [1, 0, 2, 3, 4, 5] rfl, hP, hD, hS, ⟨by decide, by decide⟩, ⟨by decide, by decide⟩, Int.le_refl _, g5_cntM0⟩ ?_
              rintro ⟨k_c, k_n⟩ ls H locs ⟨hl, hP, hD, hS, i_19, i_20, i_21, i_22⟩ ih_51_23
              have hl : lv_has ls 8 [(4, .int k_n), (5, .int k_c), (0, .ref a_y), (1, .int p_c), (2, .int p_h), (3, .int p_w)] := hl
              have i_19 : 0 ≤ k_c.toInt ∧ k_c.toInt ≤ 64 := i_19
              have i_20 : 0 ≤ k_n.toInt ∧ k_n.toInt ≤ 64 := i_20
              have i_21 : k_n.toInt ≤ k_c.toInt := i_21
              have i_22 : k_n.toInt = cntM z18 p_w.toInt k_c.toInt.toNat := i_22
              have hP : va_P G.1 vwCl [(a_y, .inr (12, [.int 0, .int 0, .ref a_1, .ref a_2, .ref a_3, .ref a_4, .int 0, .ref a_5, .int 0, .int 0, .int 0, .int 0, .long 0, .int (-1), .int 0, .int 0, .ref a_6, .int 0, .ref a_7, .ref a_8, .int 0, .ref a_9, .ref a_10, .int 0, .int 0, .ref a_11, .ref a_12, .int 0, .ref a_13, .ref a_14, .int 0, .long 0, .long 0, .int z16, .int p_h, .int 3, .int 1000000, .int z17, .ref a_15, .int 0, .int (-1), .ref a_16, .int 0, .ref a_17, .ref a_18, .ref a_19, .int 0, .ref a_20, .ref a_21, .long 0, .ref a_22, .int 0])), (a_2, .inl (G.2 0, 5740, .inl (upd (upd (upd (fun _ => 0) 3 (-1)) 4 1000) 6 (-1)))), (a_16, .inl (G.2 2, 1536, .inl z18))] H := hP
              have hD : va_D A [(a_y, .inr (12, [.int 0, .int 0, .ref a_1, .ref a_2, .ref a_3, .ref a_4, .int 0, .ref a_5, .int 0, .int 0, .int 0, .int 0, .long 0, .int (-1), .int 0, .int 0, .ref a_6, .int 0, .ref a_7, .ref a_8, .int 0, .ref a_9, .ref a_10, .int 0, .int 0, .ref a_11, .ref a_12, .int 0, .ref a_13, .ref a_14, .int 0, .long 0, .long 0, .int z16, .int p_h, .int 3, .int 1000000, .int z17, .ref a_15, .int 0, .int (-1), .ref a_16, .int 0, .ref a_17, .ref a_18, .ref a_19, .int 0, .ref a_20, .ref a_21, .long 0, .ref a_22, .int 0])), (a_2, .inl (G.2 0, 5740, .inl (upd (upd (upd (fun _ => 0) 3 (-1)) 4 1000) 6 (-1)))), (a_16, .inl (G.2 2, 1536, .inl z18))] := hD
              refine lv_iload hx hb dX12_lit_51 (lv_at hl 1 rfl) ?_
              refine lv_bipush (v := 64) hx hb dX12_lit_53 (by decide) ?_
              refine lv_icmp_ge (tgt := 137) hx hb dX12_lit_55 (by decide) (fun c_24 => ?_) (fun c_24 => ?_)
              ·
                have i_24 : k_c.toInt ≥ 64 := by have z := g5_ge (a := k_c.toInt) (b := 64) (by rfl) (by decide) c_24; omega
                refine lv_iload hx hb dX12_lit_137 (lv_at hl 0 rfl) ?_
                exact W.iret (v := k_n) hx hb hr (fun t ht hW => ⟨⟨k_n, [], rfl, ⟨k_n, g5_mlit (k := k_c) (by have z := i_22; rw [i_15] at z; exact z) (by omega) (by omega) (by omega) (by omega) (by omega) (by omega) (by omega), rfl, rfl⟩, by rw [ht]; exact hP.sub [] rfl, hD.sub [] (by decide) rfl⟩, hS.F ht⟩) hS.2.2 dX12_lit_139
              ·
                have i_24 : k_c.toInt < 64 := by have z := g5_geN (a := k_c.toInt) (b := 64) (by rfl) (by decide) c_24; omega
                refine lv_iconst (v := 0) hx hb dX12_lit_58 (by decide) ?_
                refine lv_istore (lv' := [(6, .int 0), (4, .int k_n), (5, .int k_c), (0, .ref a_y), (1, .int p_c), (2, .int p_h), (3, .int p_w)]) hx hb dX12_lit_59 hl (by decide) rfl (fun ls hl => ?_)
                refine lv_iconst (v := 0) hx hb dX12_lit_61 (by decide) ?_
                refine lv_istore (lv' := [(7, .int 0), (6, .int 0), (4, .int k_n), (5, .int k_c), (0, .ref a_y), (1, .int p_c), (2, .int p_h), (3, .int p_w)]) hx hb dX12_lit_62 hl (by decide) rfl (fun ls hl => ?_)
                refine g5_loop (α := (Int32) × (Int32)) (fun (q : (Int32) × (Int32)) (ls : Array Slot) (H : Heap) (locs : List Loc) => match q with | (k_h, k_a) => lv_has ls 8 [(6, .int k_a), (7, .int k_h), (4, .int k_n), (5, .int k_c), (0, .ref a_y), (1, .int p_c), (2, .int p_h), (3, .int p_w)] ∧ va_P G.1 vwCl [(a_y, .inr (12, [.int 0, .int 0, .ref a_1, .ref a_2, .ref a_3, .ref a_4, .int 0, .ref a_5, .int 0, .int 0, .int 0, .int 0, .long 0, .int (-1), .int 0, .int 0, .ref a_6, .int 0, .ref a_7, .ref a_8, .int 0, .ref a_9, .ref a_10, .int 0, .int 0, .ref a_11, .ref a_12, .int 0, .ref a_13, .ref a_14, .int 0, .long 0, .long 0, .int z16, .int p_h, .int 3, .int 1000000, .int z17, .ref a_15, .int 0, .int (-1), .ref a_16, .int 0, .ref a_17, .ref a_18, .ref a_19, .int 0, .ref a_20, .ref a_21, .long 0, .ref a_22, .int 0])), (a_2, .inl (G.2 0, 5740, .inl (upd (upd (upd (fun _ => 0) 3 (-1)) 4 1000) 6 (-1)))), (a_16, .inl (G.2 2, 1536, .inl z18))] H ∧ va_D A [(a_y, .inr (12, [.int 0, .int 0, .ref a_1, .ref a_2, .ref a_3, .ref a_4, .int 0, .ref a_5, .int 0, .int 0, .int 0, .int 0, .long 0, .int (-1), .int 0, .int 0, .ref a_6, .int 0, .ref a_7, .ref a_8, .int 0, .ref a_9, .ref a_10, .int 0, .int 0, .ref a_11, .ref a_12, .int 0, .ref a_13, .ref a_14, .int 0, .long 0, .long 0, .int z16, .int p_h, .int 3, .int 1000000, .int z17, .ref a_15, .int 0, .int (-1), .ref a_16, .int 0, .ref a_17, .ref a_18, .ref a_19, .int 0, .ref a_20, .ref a_21, .long 0, .ref a_22, .int 0])), (a_2, .inl (G.2 0, 5740, .inl (upd (upd (upd (fun _ => 0) 3 (-1)) 4 1000) 6 (-1)))), (a_16, .inl (G.2 2, 1536, .inl z18))] ∧ va_S A s.heap H locs ∧ (0 ≤ k_h.toInt ∧ k_h.toInt ≤ 24) ∧ (0 ≤ k_a.toInt ∧ k_a.toInt ≤ 1) ∧ (k_a.toInt = b01 (anyF z18 k_c.toInt.toNat k_h.toInt.toNat))) (fun (q : (Int32) × (Int32)) => match q with | (k_h, k_a) => Int.toNat (24 - k_h.toInt)) (0, 0) ⟨lv_sub hl [1, 0, 2, 3, 4, 5, 6, 7] rfl, hP, hD, hS, ⟨by decide, by decide⟩, ⟨by decide, by decide⟩, g5_anyZ⟩ ?_
                rintro ⟨k_h, k_a⟩ ls H locs ⟨hl, hP, hD, hS, i_25, i_26, i_27⟩ ih_64_28
                have hl : lv_has ls 8 [(6, .int k_a), (7, .int k_h), (4, .int k_n), (5, .int k_c), (0, .ref a_y), (1, .int p_c), (2, .int p_h), (3, .int p_w)] := hl
                have i_25 : 0 ≤ k_h.toInt ∧ k_h.toInt ≤ 24 := i_25
                have i_26 : 0 ≤ k_a.toInt ∧ k_a.toInt ≤ 1 := i_26
                have i_27 : k_a.toInt = b01 (anyF z18 k_c.toInt.toNat k_h.toInt.toNat) := i_27
                have hP : va_P G.1 vwCl [(a_y, .inr (12, [.int 0, .int 0, .ref a_1, .ref a_2, .ref a_3, .ref a_4, .int 0, .ref a_5, .int 0, .int 0, .int 0, .int 0, .long 0, .int (-1), .int 0, .int 0, .ref a_6, .int 0, .ref a_7, .ref a_8, .int 0, .ref a_9, .ref a_10, .int 0, .int 0, .ref a_11, .ref a_12, .int 0, .ref a_13, .ref a_14, .int 0, .long 0, .long 0, .int z16, .int p_h, .int 3, .int 1000000, .int z17, .ref a_15, .int 0, .int (-1), .ref a_16, .int 0, .ref a_17, .ref a_18, .ref a_19, .int 0, .ref a_20, .ref a_21, .long 0, .ref a_22, .int 0])), (a_2, .inl (G.2 0, 5740, .inl (upd (upd (upd (fun _ => 0) 3 (-1)) 4 1000) 6 (-1)))), (a_16, .inl (G.2 2, 1536, .inl z18))] H := hP
                have hD : va_D A [(a_y, .inr (12, [.int 0, .int 0, .ref a_1, .ref a_2, .ref a_3, .ref a_4, .int 0, .ref a_5, .int 0, .int 0, .int 0, .int 0, .long 0, .int (-1), .int 0, .int 0, .ref a_6, .int 0, .ref a_7, .ref a_8, .int 0, .ref a_9, .ref a_10, .int 0, .int 0, .ref a_11, .ref a_12, .int 0, .ref a_13, .ref a_14, .int 0, .long 0, .long 0, .int z16, .int p_h, .int 3, .int 1000000, .int z17, .ref a_15, .int 0, .int (-1), .ref a_16, .int 0, .ref a_17, .ref a_18, .ref a_19, .int 0, .ref a_20, .ref a_21, .long 0, .ref a_22, .int 0])), (a_2, .inl (G.2 0, 5740, .inl (upd (upd (upd (fun _ => 0) 3 (-1)) 4 1000) 6 (-1)))), (a_16, .inl (G.2 2, 1536, .inl z18))] := hD
                refine lv_iload hx hb dX12_lit_64 (lv_at hl 1 rfl) ?_
                refine lv_bipush (v := 24) hx hb dX12_lit_66 (by decide) ?_
                refine lv_icmp_ge (tgt := 105) hx hb dX12_lit_68 (by decide) (fun c_29 => ?_) (fun c_29 => ?_)
                ·
                  have i_29 : k_h.toInt ≥ 24 := by have z := g5_ge (a := k_h.toInt) (b := 24) (by rfl) (by decide) c_29; omega
                  refine lv_iload hx hb dX12_lit_105 (lv_at hl 2 rfl) ?_
                  refine lv_iload hx hb dX12_lit_107 (lv_at hl 0 rfl) ?_
                  refine lv_if_eq (tgt := 127) hx hb dX12_lit_109 (by decide) (fun c_30 => ?_) (fun c_30 => ?_)
                  ·
                    have i_30 : k_a.toInt = 0 := by have z := g5_eq (a := k_a.toInt) (b := 0) (by rfl) (by decide) c_30; omega
                    refine lv_iconst (v := 0) hx hb dX12_lit_127 (by decide) ?_
                    refine lv_iadd hx hb dX12_lit_128 ?_
                    refine g5_ti (v := k_n) (by simp) ?_
                    refine lv_istore (lv' := [(4, .int k_n), (6, .int k_a), (7, .int k_h), (5, .int k_c), (0, .ref a_y), (1, .int p_c), (2, .int p_h), (3, .int p_w)]) hx hb dX12_lit_129 hl (by decide) rfl (fun ls hl => ?_)
                    refine lv_iinc (v := (k_c + 1)) (lv' := [(5, .int (k_c + 1)), (4, .int k_n), (6, .int k_a), (7, .int k_h), (0, .ref a_y), (1, .int p_c), (2, .int p_h), (3, .int p_w)]) hx hb dX12_lit_131 hl (k := 3) rfl rfl (by decide) rfl (fun ls hl => ?_)
                    have t_31 : (k_c + 1).toInt = k_c.toInt + 1 := g5_iadd (a := k_c.toInt) (b := 1) rfl (by decide) (by omega) (by omega)
                    refine lv_goto (tgt := 51) hx hb dX12_lit_134 (by decide) ?_
                    exact ih_51_23 ((k_c + 1), k_n) ls H locs (show Int.toNat (64 - (k_c + 1).toInt) < Int.toNat (64 - k_c.toInt) by omega) ⟨lv_sub hl [1, 0, 4, 5, 6, 7] rfl, hP, hD, hS, ⟨by omega, by omega⟩, ⟨by omega, by omega⟩, by omega, g5_cntM i_22 (by omega) (by omega) (h := k_h) (by omega) i_27 (by omega)⟩
                  ·
                    have i_30 : k_a.toInt ≠ 0 := by have z := g5_eqN (a := k_a.toInt) (b := 0) (by rfl) (by decide) c_30; omega
                    refine lv_iload_n hx hb dX12_lit_112 rfl (lv_at hl 7 rfl) ?_
                    refine lv_iconst (v := (-1)) hx hb dX12_lit_113 (by decide) ?_
                    refine lv_icmp_eq (tgt := 123) hx hb dX12_lit_114 (by decide) (fun c_32 => ?_) (fun c_32 => ?_)
                    ·
                      have i_32 : p_w.toInt = (-1) := by have z := g5_eq (a := p_w.toInt) (b := (-1)) (by rfl) (by decide) c_32; omega
                      refine lv_iconst (v := 1) hx hb dX12_lit_123 (by decide) ?_
                      refine lv_goto (tgt := 128) hx hb dX12_lit_124 (by decide) ?_
                      refine lv_iadd hx hb dX12_lit_128 ?_
                      have t_33 : (k_n + 1).toInt = k_n.toInt + 1 := g5_iadd (a := k_n.toInt) (b := 1) (by rfl) (by decide) (by omega) (by omega)
                      refine lv_istore (lv' := [(4, .int (k_n + 1)), (6, .int k_a), (7, .int k_h), (5, .int k_c), (0, .ref a_y), (1, .int p_c), (2, .int p_h), (3, .int p_w)]) hx hb dX12_lit_129 hl (by decide) rfl (fun ls hl => ?_)
                      refine lv_iinc (v := (k_c + 1)) (lv' := [(5, .int (k_c + 1)), (4, .int (k_n + 1)), (6, .int k_a), (7, .int k_h), (0, .ref a_y), (1, .int p_c), (2, .int p_h), (3, .int p_w)]) hx hb dX12_lit_131 hl (k := 3) rfl rfl (by decide) rfl (fun ls hl => ?_)
                      have t_34 : (k_c + 1).toInt = k_c.toInt + 1 := g5_iadd (a := k_c.toInt) (b := 1) rfl (by decide) (by omega) (by omega)
                      refine lv_goto (tgt := 51) hx hb dX12_lit_134 (by decide) ?_
                      exact ih_51_23 ((k_c + 1), (k_n + 1)) ls H locs (show Int.toNat (64 - (k_c + 1).toInt) < Int.toNat (64 - k_c.toInt) by omega) ⟨lv_sub hl [1, 0, 4, 5, 6, 7] rfl, hP, hD, hS, ⟨by omega, by omega⟩, ⟨by omega, by omega⟩, by omega, g5_cntM i_22 (by omega) (by omega) (h := k_h) (by omega) i_27 (by omega)⟩
                    ·
                      have i_32 : p_w.toInt ≠ (-1) := by have z := g5_eqN (a := p_w.toInt) (b := (-1)) (by rfl) (by decide) c_32; omega
                      refine lv_iload_n hx hb dX12_lit_117 rfl (lv_at hl 7 rfl) ?_
                      refine lv_iload hx hb dX12_lit_118 (lv_at hl 3 rfl) ?_
                      refine lv_icmp_ne (tgt := 127) hx hb dX12_lit_120 (by decide) (fun c_35 => ?_) (fun c_35 => ?_)
                      ·
                        have i_35 : p_w.toInt ≠ k_c.toInt := by have z := g5_ne (a := p_w.toInt) (b := k_c.toInt) (by rfl) (by rfl) c_35; omega
                        refine lv_iconst (v := 0) hx hb dX12_lit_127 (by decide) ?_
                        refine lv_iadd hx hb dX12_lit_128 ?_
                        refine g5_ti (v := k_n) (by simp) ?_
                        refine lv_istore (lv' := [(4, .int k_n), (6, .int k_a), (7, .int k_h), (5, .int k_c), (0, .ref a_y), (1, .int p_c), (2, .int p_h), (3, .int p_w)]) hx hb dX12_lit_129 hl (by decide) rfl (fun ls hl => ?_)
                        refine lv_iinc (v := (k_c + 1)) (lv' := [(5, .int (k_c + 1)), (4, .int k_n), (6, .int k_a), (7, .int k_h), (0, .ref a_y), (1, .int p_c), (2, .int p_h), (3, .int p_w)]) hx hb dX12_lit_131 hl (k := 3) rfl rfl (by decide) rfl (fun ls hl => ?_)
                        have t_36 : (k_c + 1).toInt = k_c.toInt + 1 := g5_iadd (a := k_c.toInt) (b := 1) rfl (by decide) (by omega) (by omega)
                        refine lv_goto (tgt := 51) hx hb dX12_lit_134 (by decide) ?_
                        exact ih_51_23 ((k_c + 1), k_n) ls H locs (show Int.toNat (64 - (k_c + 1).toInt) < Int.toNat (64 - k_c.toInt) by omega) ⟨lv_sub hl [1, 0, 4, 5, 6, 7] rfl, hP, hD, hS, ⟨by omega, by omega⟩, ⟨by omega, by omega⟩, by omega, g5_cntM i_22 (by omega) (by omega) (h := k_h) (by omega) i_27 (by omega)⟩
                      ·
                        have i_35 : p_w.toInt = k_c.toInt := by have z := g5_neN (a := p_w.toInt) (b := k_c.toInt) (by rfl) (by rfl) c_35; omega
                        refine lv_iconst (v := 1) hx hb dX12_lit_123 (by decide) ?_
                        refine lv_goto (tgt := 128) hx hb dX12_lit_124 (by decide) ?_
                        refine lv_iadd hx hb dX12_lit_128 ?_
                        have t_37 : (k_n + 1).toInt = k_n.toInt + 1 := g5_iadd (a := k_n.toInt) (b := 1) (by rfl) (by decide) (by omega) (by omega)
                        refine lv_istore (lv' := [(4, .int (k_n + 1)), (6, .int k_a), (7, .int k_h), (5, .int k_c), (0, .ref a_y), (1, .int p_c), (2, .int p_h), (3, .int p_w)]) hx hb dX12_lit_129 hl (by decide) rfl (fun ls hl => ?_)
                        refine lv_iinc (v := (k_c + 1)) (lv' := [(5, .int (k_c + 1)), (4, .int (k_n + 1)), (6, .int k_a), (7, .int k_h), (0, .ref a_y), (1, .int p_c), (2, .int p_h), (3, .int p_w)]) hx hb dX12_lit_131 hl (k := 3) rfl rfl (by decide) rfl (fun ls hl => ?_)
                        have t_38 : (k_c + 1).toInt = k_c.toInt + 1 := g5_iadd (a := k_c.toInt) (b := 1) rfl (by decide) (by omega) (by omega)
                        refine lv_goto (tgt := 51) hx hb dX12_lit_134 (by decide) ?_
                        exact ih_51_23 ((k_c + 1), (k_n + 1)) ls H locs (show Int.toNat (64 - (k_c + 1).toInt) < Int.toNat (64 - k_c.toInt) by omega) ⟨lv_sub hl [1, 0, 4, 5, 6, 7] rfl, hP, hD, hS, ⟨by omega, by omega⟩, ⟨by omega, by omega⟩, by omega, g5_cntM i_22 (by omega) (by omega) (h := k_h) (by omega) i_27 (by omega)⟩
                ·
                  have i_29 : k_h.toInt < 24 := by have z := g5_geN (a := k_h.toInt) (b := 24) (by rfl) (by decide) c_29; omega
                  refine lv_iload hx hb dX12_lit_71 (lv_at hl 0 rfl) ?_
                  refine lv_if_ne (tgt := 92) hx hb dX12_lit_73 (by decide) (fun c_39 => ?_) (fun c_39 => ?_)
                  ·
                    have i_39 : k_a.toInt ≠ 0 := by have z := g5_ne (a := k_a.toInt) (b := 0) (by rfl) (by decide) c_39; omega
                    refine lv_iconst (v := 1) hx hb dX12_lit_92 (by decide) ?_
                    refine lv_goto (tgt := 97) hx hb dX12_lit_93 (by decide) ?_
                    refine lv_istore (lv' := [(6, .int 1), (7, .int k_h), (4, .int k_n), (5, .int k_c), (0, .ref a_y), (1, .int p_c), (2, .int p_h), (3, .int p_w)]) hx hb dX12_lit_97 hl (by decide) rfl (fun ls hl => ?_)
                    refine lv_iinc (v := (k_h + 1)) (lv' := [(7, .int (k_h + 1)), (6, .int 1), (4, .int k_n), (5, .int k_c), (0, .ref a_y), (1, .int p_c), (2, .int p_h), (3, .int p_w)]) hx hb dX12_lit_99 hl (k := 1) rfl rfl (by decide) rfl (fun ls hl => ?_)
                    have t_40 : (k_h + 1).toInt = k_h.toInt + 1 := g5_iadd (a := k_h.toInt) (b := 1) rfl (by decide) (by omega) (by omega)
                    refine lv_goto (tgt := 64) hx hb dX12_lit_102 (by decide) ?_
                    exact ih_64_28 ((k_h + 1), 1) ls H locs (show Int.toNat (24 - (k_h + 1).toInt) < Int.toNat (24 - k_h.toInt) by omega) ⟨lv_sub hl [1, 0, 2, 3, 4, 5, 6, 7] rfl, hP, hD, hS, ⟨by omega, by omega⟩, ⟨by decide, by decide⟩, g5_any1 (x := 1) i_27 (by omega) (by omega) (Or.inl (by omega)) (by decide)⟩
                  ·
                    have i_39 : k_a.toInt = 0 := by have z := g5_neN (a := k_a.toInt) (b := 0) (by rfl) (by decide) c_39; omega
                    refine lv_aload_n hx hb dX12_lit_76 rfl (lv_at hl 4 rfl) ?_
                    refine va_get (D := G.1) (ci := 12) (v := .ref a_16) (C := RX12) (T := TX12) (N := 52) hx hb hts inG_X12 hown hK hP 0 rfl rfl 41 (by decide) (hts _ fl_X12_85) (fun _ h9 => h9) rfl dX12_lit_77 ?_
                    refine lv_bipush (v := 64) hx hb dX12_lit_80 (by decide) ?_
                    refine lv_iload hx hb dX12_lit_82 (lv_at hl 1 rfl) ?_
                    refine lv_imul hx hb dX12_lit_84 ?_
                    have t_41 : (64 * k_h).toInt = 64 * k_h.toInt := g5_imul (a := 64) (b := k_h.toInt) (by decide) (by rfl) (by omega) (by omega)
                    refine lv_iload hx hb dX12_lit_85 (lv_at hl 3 rfl) ?_
                    refine lv_iadd hx hb dX12_lit_87 ?_
                    have t_42 : ((64 * k_h) + k_c).toInt = (64 * k_h).toInt + k_c.toInt := g5_iadd (a := (64 * k_h).toInt) (b := k_c.toInt) (by rfl) (by rfl) (by omega) (by omega)
                    refine va_zald hx hb hK hP 2 2 rfl rfl (i := ((64 * k_h) + k_c)) (vp_in_iff.mpr ⟨by omega, by omega⟩) dX12_lit_88 ?_
                    refine lv_if_eq (tgt := 96) hx hb dX12_lit_89 (by decide) (fun c_43 => ?_) (fun c_43 => ?_)
                    ·
                      have i_43 : (z18 ((64 * k_h) + k_c).toNatClampNeg).toInt = 0 := by have z := g5_eq (a := (z18 ((64 * k_h) + k_c).toNatClampNeg).toInt) (b := 0) (by rfl) (by decide) c_43; omega
                      refine lv_iconst (v := 0) hx hb dX12_lit_96 (by decide) ?_
                      refine lv_istore (lv' := [(6, .int 0), (7, .int k_h), (4, .int k_n), (5, .int k_c), (0, .ref a_y), (1, .int p_c), (2, .int p_h), (3, .int p_w)]) hx hb dX12_lit_97 hl (by decide) rfl (fun ls hl => ?_)
                      refine lv_iinc (v := (k_h + 1)) (lv' := [(7, .int (k_h + 1)), (6, .int 0), (4, .int k_n), (5, .int k_c), (0, .ref a_y), (1, .int p_c), (2, .int p_h), (3, .int p_w)]) hx hb dX12_lit_99 hl (k := 1) rfl rfl (by decide) rfl (fun ls hl => ?_)
                      have t_44 : (k_h + 1).toInt = k_h.toInt + 1 := g5_iadd (a := k_h.toInt) (b := 1) rfl (by decide) (by omega) (by omega)
                      refine lv_goto (tgt := 64) hx hb dX12_lit_102 (by decide) ?_
                      exact ih_64_28 ((k_h + 1), 0) ls H locs (show Int.toNat (24 - (k_h + 1).toInt) < Int.toNat (24 - k_h.toInt) by omega) ⟨lv_sub hl [1, 0, 2, 3, 4, 5, 6, 7] rfl, hP, hD, hS, ⟨by omega, by omega⟩, ⟨by decide, by decide⟩, g5_any0 (y := ((64 * k_h) + k_c)) (x := 0) i_27 (by omega) (by omega) (by omega) (by omega) (by omega) (by omega) (by decide)⟩
                    ·
                      have i_43 : (z18 ((64 * k_h) + k_c).toNatClampNeg).toInt ≠ 0 := by have z := g5_eqN (a := (z18 ((64 * k_h) + k_c).toNatClampNeg).toInt) (b := 0) (by rfl) (by decide) c_43; omega
                      refine lv_iconst (v := 1) hx hb dX12_lit_92 (by decide) ?_
                      refine lv_goto (tgt := 97) hx hb dX12_lit_93 (by decide) ?_
                      refine lv_istore (lv' := [(6, .int 1), (7, .int k_h), (4, .int k_n), (5, .int k_c), (0, .ref a_y), (1, .int p_c), (2, .int p_h), (3, .int p_w)]) hx hb dX12_lit_97 hl (by decide) rfl (fun ls hl => ?_)
                      refine lv_iinc (v := (k_h + 1)) (lv' := [(7, .int (k_h + 1)), (6, .int 1), (4, .int k_n), (5, .int k_c), (0, .ref a_y), (1, .int p_c), (2, .int p_h), (3, .int p_w)]) hx hb dX12_lit_99 hl (k := 1) rfl rfl (by decide) rfl (fun ls hl => ?_)
                      have t_45 : (k_h + 1).toInt = k_h.toInt + 1 := g5_iadd (a := k_h.toInt) (b := 1) rfl (by decide) (by omega) (by omega)
                      refine lv_goto (tgt := 64) hx hb dX12_lit_102 (by decide) ?_
                      exact ih_64_28 ((k_h + 1), 1) ls H locs (show Int.toNat (24 - (k_h + 1).toInt) < Int.toNat (24 - k_h.toInt) by omega) ⟨lv_sub hl [1, 0, 2, 3, 4, 5, 6, 7] rfl, hP, hD, hS, ⟨by omega, by omega⟩, ⟨by decide, by decide⟩, g5_any1 (x := 1) i_27 (by omega) (by omega) (Or.inr ⟨((64 * k_h) + k_c), by omega, by omega, by omega⟩) (by decide)⟩
            ·
              exact absurd c_12 (by decide)
set_option maxHeartbeats 4000000 in
set_option maxRecDepth 100000 in
theorem k_mbeside2 (l : Launch) (G : g5_G) (sz : Nat) (p_c : Int32) (p_w : Int32) (h_p_c : 0 ≤ p_c.toInt ∧ p_c.toInt ≤ 63) (h_p_w : 0 ≤ p_w.toInt ∧ p_w.toInt ≤ 3) : Met l yX12_beside (wsG yX12_beside cX12_beside 2 (some .int)) ({ frames := 0, cells := 0, slots := 0, locals := 0 }) (va_Pc [.int p_c, .int p_w] (g5_P G [] sz)) (va_Qi (fun (r : Int32) (u : va_W) => (∃ (o_r : Int32), (o_r.toInt = bs p_c.toInt p_w.toInt) ∧ (-1 ≤ o_r.toInt ∧ o_r.toInt ≤ 63) ∧ (r = o_r) ∧ (u = []))) (g5_B G (va_A [] sz)) (va_A [] sz)) 0 0 (va_A [] sz) := by
  refine Met.ofW (cc := cX12_beside) (maxL := 2) (ret := (some .int)) (by decide) rfl ?_
  intro p e s m args below meth c s₁ B hml hv
  obtain ⟨rfl, hsz, hP, hK, hD0, hN, hT⟩ := hv
  have hx := B.exec
  have hb := B.bytes
  have hr := B.returns
  have hts : ∀ w ∈ tblG, w.before _ s = true := fun w h => atoms_spec (ws := (wsG yX12_beside cX12_beside 2 (some .int))) B.pre w (List.mem_cons_of_mem _ h)
  have hown : s.vm.findClass RX12 = some m.cls := findClass_of_methodNamed B.named
  have hlocks := B.notSynchronized
  subst hsz
  have hD := hD0.self (sz := s.heap.size)
  generalize hAe : va_A [] s.heap.size = A at hD hT ⊢
  have hA : ∀ q : Nat, s.heap.size ≤ q → A q := fun q h => by rw [← hAe]; exact Or.inr h
  have hS : va_S A s.heap s.heap [] := va_S.rf
  have hP : va_P G.1 vwCl [] s.heap := hP
  have hl := lv_entry ([.int p_c, .int p_w]) (n := 2) (Nat.le_of_ble_eq_true rfl)
  rw [lg_entry_eq]
  generalize (lg_sl ([.int p_c, .int p_w]) ++ List.replicate (2 - (lg_sl ([.int p_c, .int p_w])).length) Slot.unset).toArray = ls at hl ⊢
  have hl : lv_has ls 2 [(0, .int p_c), (1, .int p_w)] := hl
  refine lv_iload_n hx hb dX12_beside_0 rfl (lv_at hl 1 rfl) ?_
  rcases (show p_w.toInt = 0 ∨ p_w.toInt = 1 ∨ p_w.toInt = 2 ∨ p_w.toInt > 2 by omega) with s_1 | s_1 | s_1 | s_1
  ·
    have i_1 : p_w.toInt = 0 := by omega
    refine lv_tableIn (tgt := 28) hx hb dX12_beside_1 (by omega) (by omega) (by rw [s_1]; rfl) (by decide) ?_
    refine lv_iload_n hx hb dX12_beside_28 rfl (lv_at hl 0 rfl) ?_
    refine lv_bipush (v := 8) hx hb dX12_beside_29 (by decide) ?_
    refine lv_icmp_lt (tgt := 41) hx hb dX12_beside_31 (by decide) (fun c_2 => ?_) (fun c_2 => ?_)
    ·
      have i_2 : p_c.toInt < 8 := by have z := g5_lt (a := p_c.toInt) (b := 8) (by rfl) (by decide) c_2; omega
      refine lv_iconst (v := (-1)) hx hb dX12_beside_41 (by decide) ?_
      exact W.iret (v := (-1)) hx hb hr (fun t ht hW => ⟨⟨(-1), [], rfl, ⟨(-1), by have zc_o_r : ((-1) : Int32).toInt = (-1) := (by decide); unfold bs; omega, ⟨by have zc_o_r : ((-1) : Int32).toInt = (-1) := (by decide); omega, by have zc_o_r : ((-1) : Int32).toInt = (-1) := (by decide); omega⟩, rfl, rfl⟩, by rw [ht]; exact hP.sub [] rfl, hD.sub [] (by decide) rfl⟩, hS.F ht⟩) hS.2.2 dX12_beside_42
    ·
      have i_2 : p_c.toInt ≥ 8 := by have z := g5_ltN (a := p_c.toInt) (b := 8) (by rfl) (by decide) c_2; omega
      refine lv_iload_n hx hb dX12_beside_34 rfl (lv_at hl 0 rfl) ?_
      refine lv_bipush (v := 8) hx hb dX12_beside_35 (by decide) ?_
      refine lv_isub hx hb dX12_beside_37 ?_
      have t_3 : (p_c - 8).toInt = p_c.toInt - 8 := g5_isub (a := p_c.toInt) (b := 8) (by rfl) (by decide) (by omega) (by omega)
      refine lv_goto (tgt := 42) hx hb dX12_beside_38 (by decide) ?_
      exact W.iret (v := (p_c - 8)) hx hb hr (fun t ht hW => ⟨⟨(p_c - 8), [], rfl, ⟨(p_c - 8), by unfold bs; omega, ⟨by omega, by omega⟩, rfl, rfl⟩, by rw [ht]; exact hP.sub [] rfl, hD.sub [] (by decide) rfl⟩, hS.F ht⟩) hS.2.2 dX12_beside_42
  ·
    have i_1 : p_w.toInt = 1 := by omega
    refine lv_tableIn (tgt := 43) hx hb dX12_beside_1 (by omega) (by omega) (by rw [s_1]; rfl) (by decide) ?_
    refine lv_iload_n hx hb dX12_beside_43 rfl (lv_at hl 0 rfl) ?_
    refine lv_bipush (v := 8) hx hb dX12_beside_44 (by decide) ?_
    refine lv_irem hx hb dX12_beside_46 (by decide) ?_
    have t_4 : (p_c - p_c / 8 * 8).toInt = p_c.toInt % 8 := g5_irem (a := p_c.toInt) (b := 8) rfl (by decide) (by omega) (by decide)
    refine lv_bipush (v := 7) hx hb dX12_beside_47 (by decide) ?_
    refine lv_icmp_ge (tgt := 58) hx hb dX12_beside_49 (by decide) (fun c_5 => ?_) (fun c_5 => ?_)
    ·
      have i_5 : (p_c.toInt % 8) ≥ 7 := by have z := g5_ge (a := (p_c - p_c / 8 * 8).toInt) (b := 7) (by rfl) (by decide) c_5; omega
      refine lv_iconst (v := (-1)) hx hb dX12_beside_58 (by decide) ?_
      exact W.iret (v := (-1)) hx hb hr (fun t ht hW => ⟨⟨(-1), [], rfl, ⟨(-1), by have zc_o_r : ((-1) : Int32).toInt = (-1) := (by decide); unfold bs; omega, ⟨by have zc_o_r : ((-1) : Int32).toInt = (-1) := (by decide); omega, by have zc_o_r : ((-1) : Int32).toInt = (-1) := (by decide); omega⟩, rfl, rfl⟩, by rw [ht]; exact hP.sub [] rfl, hD.sub [] (by decide) rfl⟩, hS.F ht⟩) hS.2.2 dX12_beside_59
    ·
      have i_5 : (p_c.toInt % 8) < 7 := by have z := g5_geN (a := (p_c - p_c / 8 * 8).toInt) (b := 7) (by rfl) (by decide) c_5; omega
      refine lv_iload_n hx hb dX12_beside_52 rfl (lv_at hl 0 rfl) ?_
      refine lv_iconst (v := 1) hx hb dX12_beside_53 (by decide) ?_
      refine lv_iadd hx hb dX12_beside_54 ?_
      have t_6 : (p_c + 1).toInt = p_c.toInt + 1 := g5_iadd (a := p_c.toInt) (b := 1) (by rfl) (by decide) (by omega) (by omega)
      refine lv_goto (tgt := 59) hx hb dX12_beside_55 (by decide) ?_
      exact W.iret (v := (p_c + 1)) hx hb hr (fun t ht hW => ⟨⟨(p_c + 1), [], rfl, ⟨(p_c + 1), by unfold bs; omega, ⟨by omega, by omega⟩, rfl, rfl⟩, by rw [ht]; exact hP.sub [] rfl, hD.sub [] (by decide) rfl⟩, hS.F ht⟩) hS.2.2 dX12_beside_59
  ·
    have i_1 : p_w.toInt = 2 := by omega
    refine lv_tableIn (tgt := 60) hx hb dX12_beside_1 (by omega) (by omega) (by rw [s_1]; rfl) (by decide) ?_
    refine lv_iload_n hx hb dX12_beside_60 rfl (lv_at hl 0 rfl) ?_
    refine lv_bipush (v := 56) hx hb dX12_beside_61 (by decide) ?_
    refine lv_icmp_ge (tgt := 73) hx hb dX12_beside_63 (by decide) (fun c_7 => ?_) (fun c_7 => ?_)
    ·
      have i_7 : p_c.toInt ≥ 56 := by have z := g5_ge (a := p_c.toInt) (b := 56) (by rfl) (by decide) c_7; omega
      refine lv_iconst (v := (-1)) hx hb dX12_beside_73 (by decide) ?_
      exact W.iret (v := (-1)) hx hb hr (fun t ht hW => ⟨⟨(-1), [], rfl, ⟨(-1), by have zc_o_r : ((-1) : Int32).toInt = (-1) := (by decide); unfold bs; omega, ⟨by have zc_o_r : ((-1) : Int32).toInt = (-1) := (by decide); omega, by have zc_o_r : ((-1) : Int32).toInt = (-1) := (by decide); omega⟩, rfl, rfl⟩, by rw [ht]; exact hP.sub [] rfl, hD.sub [] (by decide) rfl⟩, hS.F ht⟩) hS.2.2 dX12_beside_74
    ·
      have i_7 : p_c.toInt < 56 := by have z := g5_geN (a := p_c.toInt) (b := 56) (by rfl) (by decide) c_7; omega
      refine lv_iload_n hx hb dX12_beside_66 rfl (lv_at hl 0 rfl) ?_
      refine lv_bipush (v := 8) hx hb dX12_beside_67 (by decide) ?_
      refine lv_iadd hx hb dX12_beside_69 ?_
      have t_8 : (p_c + 8).toInt = p_c.toInt + 8 := g5_iadd (a := p_c.toInt) (b := 8) (by rfl) (by decide) (by omega) (by omega)
      refine lv_goto (tgt := 74) hx hb dX12_beside_70 (by decide) ?_
      exact W.iret (v := (p_c + 8)) hx hb hr (fun t ht hW => ⟨⟨(p_c + 8), [], rfl, ⟨(p_c + 8), by unfold bs; omega, ⟨by omega, by omega⟩, rfl, rfl⟩, by rw [ht]; exact hP.sub [] rfl, hD.sub [] (by decide) rfl⟩, hS.F ht⟩) hS.2.2 dX12_beside_74
  ·
    have i_1 : p_w.toInt > 2 := by omega
    refine lv_tableOut (tgt := 75) hx hb dX12_beside_1 (by omega) (by decide) ?_
    refine lv_iload_n hx hb dX12_beside_75 rfl (lv_at hl 0 rfl) ?_
    refine lv_bipush (v := 8) hx hb dX12_beside_76 (by decide) ?_
    refine lv_irem hx hb dX12_beside_78 (by decide) ?_
    have t_9 : (p_c - p_c / 8 * 8).toInt = p_c.toInt % 8 := g5_irem (a := p_c.toInt) (b := 8) rfl (by decide) (by omega) (by decide)
    refine lv_if_le (tgt := 88) hx hb dX12_beside_79 (by decide) (fun c_10 => ?_) (fun c_10 => ?_)
    ·
      have i_10 : (p_c.toInt % 8) ≤ 0 := by have z := g5_le (a := (p_c - p_c / 8 * 8).toInt) (b := 0) (by rfl) (by decide) c_10; omega
      refine lv_iconst (v := (-1)) hx hb dX12_beside_88 (by decide) ?_
      exact W.iret (v := (-1)) hx hb hr (fun t ht hW => ⟨⟨(-1), [], rfl, ⟨(-1), by have zc_o_r : ((-1) : Int32).toInt = (-1) := (by decide); unfold bs; omega, ⟨by have zc_o_r : ((-1) : Int32).toInt = (-1) := (by decide); omega, by have zc_o_r : ((-1) : Int32).toInt = (-1) := (by decide); omega⟩, rfl, rfl⟩, by rw [ht]; exact hP.sub [] rfl, hD.sub [] (by decide) rfl⟩, hS.F ht⟩) hS.2.2 dX12_beside_89
    ·
      have i_10 : (p_c.toInt % 8) > 0 := by have z := g5_leN (a := (p_c - p_c / 8 * 8).toInt) (b := 0) (by rfl) (by decide) c_10; omega
      refine lv_iload_n hx hb dX12_beside_82 rfl (lv_at hl 0 rfl) ?_
      refine lv_iconst (v := 1) hx hb dX12_beside_83 (by decide) ?_
      refine lv_isub hx hb dX12_beside_84 ?_
      have t_11 : (p_c - 1).toInt = p_c.toInt - 1 := g5_isub (a := p_c.toInt) (b := 1) (by rfl) (by decide) (by omega) (by omega)
      refine lv_goto (tgt := 89) hx hb dX12_beside_85 (by decide) ?_
      exact W.iret (v := (p_c - 1)) hx hb hr (fun t ht hW => ⟨⟨(p_c - 1), [], rfl, ⟨(p_c - 1), by unfold bs; omega, ⟨by omega, by omega⟩, rfl, rfl⟩, by rw [ht]; exact hP.sub [] rfl, hD.sub [] (by decide) rfl⟩, hS.F ht⟩) hS.2.2 dX12_beside_89
theorem dX12_step_0 : decode cX12_step 0 = .ok (.iload_n 2, 1) := by decide +kernel
theorem dX12_step_1 : decode cX12_step 1 = .ok (.iconst 4, 1) := by decide +kernel
theorem dX12_step_2 : decode cX12_step 2 = .ok (.if_icmp .ne 7, 3) := by decide +kernel
theorem dX12_step_5 : decode cX12_step 5 = .ok (.iload_n 1, 1) := by decide +kernel
theorem dX12_step_6 : decode cX12_step 6 = .ok (.goto 8, 3) := by decide +kernel
theorem dX12_step_9 : decode cX12_step 9 = .ok (.iload_n 1, 1) := by decide +kernel
theorem dX12_step_10 : decode cX12_step 10 = .ok (.iload_n 2, 1) := by decide +kernel
theorem dX12_step_11 : decode cX12_step 11 = .ok (.invokestatic 374, 3) := by decide +kernel
theorem dX12_step_14 : decode cX12_step 14 = .ok (.istore 4, 2) := by decide +kernel
theorem dX12_step_16 : decode cX12_step 16 = .ok (.iload 4, 2) := by decide +kernel
theorem dX12_step_18 : decode cX12_step 18 = .ok (.iconst (-1), 1) := by decide +kernel
theorem dX12_step_19 : decode cX12_step 19 = .ok (.if_icmp .eq 34, 3) := by decide +kernel
theorem dX12_step_22 : decode cX12_step 22 = .ok (.aload_n 0, 1) := by decide +kernel
theorem dX12_step_23 : decode cX12_step 23 = .ok (.getfield 95, 3) := by decide +kernel
theorem dX12_step_26 : decode cX12_step 26 = .ok (.bipush 64, 2) := by decide +kernel
theorem dX12_step_28 : decode cX12_step 28 = .ok (.iload_n 3, 1) := by decide +kernel
theorem dX12_step_29 : decode cX12_step 29 = .ok (.imul, 1) := by decide +kernel
theorem dX12_step_30 : decode cX12_step 30 = .ok (.iload 4, 2) := by decide +kernel
theorem dX12_step_32 : decode cX12_step 32 = .ok (.ifCond .ge 7, 3) := by decide +kernel
theorem dX12_step_35 : decode cX12_step 35 = .ok (.iconst 0, 1) := by decide +kernel
theorem dX12_step_36 : decode cX12_step 36 = .ok (.goto 5, 3) := by decide +kernel
theorem dX12_step_39 : decode cX12_step 39 = .ok (.iload 4, 2) := by decide +kernel
theorem dX12_step_41 : decode cX12_step 41 = .ok (.iadd, 1) := by decide +kernel
theorem dX12_step_42 : decode cX12_step 42 = .ok (.iaload, 1) := by decide +kernel
theorem dX12_step_43 : decode cX12_step 43 = .ok (.bipush 64, 2) := by decide +kernel
theorem dX12_step_45 : decode cX12_step 45 = .ok (.if_icmp .ge 8, 3) := by decide +kernel
theorem dX12_step_48 : decode cX12_step 48 = .ok (.iload 4, 2) := by decide +kernel
theorem dX12_step_50 : decode cX12_step 50 = .ok (.goto 4, 3) := by decide +kernel
theorem dX12_step_53 : decode cX12_step 53 = .ok (.iconst (-1), 1) := by decide +kernel
theorem dX12_step_54 : decode cX12_step 54 = .ok (.ireturn, 1) := by decide +kernel
set_option maxHeartbeats 4000000 in
set_option maxRecDepth 100000 in
theorem k_mstep (l : Launch) (G : g5_G) (a_y a_19 a_1 a_2 a_3 a_4 a_5 a_6 a_7 a_8 a_9 a_10 a_11 a_12 a_13 a_14 a_15 a_16 a_17 a_18 a_20 a_21 a_22 : Nat) (sz : Nat) (e_cell : Int32) (e_hour : Int32) (e_way : Int32) (e_bright : Int32) (e_points : Int32) (e_through : Int32) (e_seen : Int32) (p_f : Int32) (p_k : Int32) (p_h : Int32) (f_m : Nat → Int32) (h_p_f : 0 ≤ p_f.toInt ∧ p_f.toInt ≤ 63) (h_p_k : 0 ≤ p_k.toInt ∧ p_k.toInt ≤ 4) (h_p_h : 0 ≤ p_h.toInt ∧ p_h.toInt ≤ 23) : Met l yX12_step (wsG yX12_step cX12_step 5 (some .int)) ({ frames := 1, cells := 0, slots := 0, locals := 21 }) (va_Pc [.ref a_y, .int p_f, .int p_k, .int p_h] (g5_P G [(a_y, .inr (12, [.int 0, .int 0, .ref a_1, .ref a_2, .ref a_3, .ref a_4, .int 0, .ref a_5, .int 0, .int 0, .int 0, .int 0, .long 0, .int (-1), .int 0, .int 0, .ref a_6, .int 0, .ref a_7, .ref a_8, .int 0, .ref a_9, .ref a_10, .int 0, .int 0, .ref a_11, .ref a_12, .int 0, .ref a_13, .ref a_14, .int 0, .long 0, .long 0, .int e_cell, .int e_hour, .int e_way, .int e_bright, .int e_points, .ref a_15, .int e_through, .int e_seen, .ref a_16, .int 0, .ref a_17, .ref a_18, .ref a_19, .int 0, .ref a_20, .ref a_21, .long 0, .ref a_22, .int 0])), (a_19, .inl (G.2 0, 1536, .inl f_m))] sz)) (va_Qi (fun (r : Int32) (u : va_W) => ((stF f_m p_f.toInt p_k.toInt p_h.toInt = -1) ∧ (r = (-1)) ∧ (u = [(a_y, .inr (12, [.int 0, .int 0, .ref a_1, .ref a_2, .ref a_3, .ref a_4, .int 0, .ref a_5, .int 0, .int 0, .int 0, .int 0, .long 0, .int (-1), .int 0, .int 0, .ref a_6, .int 0, .ref a_7, .ref a_8, .int 0, .ref a_9, .ref a_10, .int 0, .int 0, .ref a_11, .ref a_12, .int 0, .ref a_13, .ref a_14, .int 0, .long 0, .long 0, .int e_cell, .int e_hour, .int e_way, .int e_bright, .int e_points, .ref a_15, .int e_through, .int e_seen, .ref a_16, .int 0, .ref a_17, .ref a_18, .ref a_19, .int 0, .ref a_20, .ref a_21, .long 0, .ref a_22, .int 0])), (a_19, .inl (G.2 0, 1536, .inl f_m))])) ∨ (∃ (o_r : Int32), (o_r.toInt = stF f_m p_f.toInt p_k.toInt p_h.toInt) ∧ (0 ≤ o_r.toInt ∧ o_r.toInt ≤ 63) ∧ (r = o_r) ∧ (u = [(a_y, .inr (12, [.int 0, .int 0, .ref a_1, .ref a_2, .ref a_3, .ref a_4, .int 0, .ref a_5, .int 0, .int 0, .int 0, .int 0, .long 0, .int (-1), .int 0, .int 0, .ref a_6, .int 0, .ref a_7, .ref a_8, .int 0, .ref a_9, .ref a_10, .int 0, .int 0, .ref a_11, .ref a_12, .int 0, .ref a_13, .ref a_14, .int 0, .long 0, .long 0, .int e_cell, .int e_hour, .int e_way, .int e_bright, .int e_points, .ref a_15, .int e_through, .int e_seen, .ref a_16, .int 0, .ref a_17, .ref a_18, .ref a_19, .int 0, .ref a_20, .ref a_21, .long 0, .ref a_22, .int 0])), (a_19, .inl (G.2 0, 1536, .inl f_m))]))) (g5_B G (va_A [(a_y, .inr (12, [.int 0, .int 0, .ref a_1, .ref a_2, .ref a_3, .ref a_4, .int 0, .ref a_5, .int 0, .int 0, .int 0, .int 0, .long 0, .int (-1), .int 0, .int 0, .ref a_6, .int 0, .ref a_7, .ref a_8, .int 0, .ref a_9, .ref a_10, .int 0, .int 0, .ref a_11, .ref a_12, .int 0, .ref a_13, .ref a_14, .int 0, .long 0, .long 0, .int e_cell, .int e_hour, .int e_way, .int e_bright, .int e_points, .ref a_15, .int e_through, .int e_seen, .ref a_16, .int 0, .ref a_17, .ref a_18, .ref a_19, .int 0, .ref a_20, .ref a_21, .long 0, .ref a_22, .int 0])), (a_19, .inl (G.2 0, 1536, .inl f_m))] sz)) (va_A [(a_y, .inr (12, [.int 0, .int 0, .ref a_1, .ref a_2, .ref a_3, .ref a_4, .int 0, .ref a_5, .int 0, .int 0, .int 0, .int 0, .long 0, .int (-1), .int 0, .int 0, .ref a_6, .int 0, .ref a_7, .ref a_8, .int 0, .ref a_9, .ref a_10, .int 0, .int 0, .ref a_11, .ref a_12, .int 0, .ref a_13, .ref a_14, .int 0, .long 0, .long 0, .int e_cell, .int e_hour, .int e_way, .int e_bright, .int e_points, .ref a_15, .int e_through, .int e_seen, .ref a_16, .int 0, .ref a_17, .ref a_18, .ref a_19, .int 0, .ref a_20, .ref a_21, .long 0, .ref a_22, .int 0])), (a_19, .inl (G.2 0, 1536, .inl f_m))] sz)) 0 0 (va_A [(a_y, .inr (12, [.int 0, .int 0, .ref a_1, .ref a_2, .ref a_3, .ref a_4, .int 0, .ref a_5, .int 0, .int 0, .int 0, .int 0, .long 0, .int (-1), .int 0, .int 0, .ref a_6, .int 0, .ref a_7, .ref a_8, .int 0, .ref a_9, .ref a_10, .int 0, .int 0, .ref a_11, .ref a_12, .int 0, .ref a_13, .ref a_14, .int 0, .long 0, .long 0, .int e_cell, .int e_hour, .int e_way, .int e_bright, .int e_points, .ref a_15, .int e_through, .int e_seen, .ref a_16, .int 0, .ref a_17, .ref a_18, .ref a_19, .int 0, .ref a_20, .ref a_21, .long 0, .ref a_22, .int 0])), (a_19, .inl (G.2 0, 1536, .inl f_m))] sz) := by
  refine Met.ofW (cc := cX12_step) (maxL := 5) (ret := (some .int)) (by decide) rfl ?_
  intro p e s m args below meth c s₁ B hml hv
  obtain ⟨rfl, hsz, hP, hK, hD0, hN, hT⟩ := hv
  have hx := B.exec
  have hb := B.bytes
  have hr := B.returns
  have hts : ∀ w ∈ tblG, w.before _ s = true := fun w h => atoms_spec (ws := (wsG yX12_step cX12_step 5 (some .int))) B.pre w (List.mem_cons_of_mem _ h)
  have hown : s.vm.findClass RX12 = some m.cls := findClass_of_methodNamed B.named
  have hlocks := B.notSynchronized
  subst hsz
  have hD := hD0.self (sz := s.heap.size)
  generalize hAe : va_A [(a_y, .inr (12, [.int 0, .int 0, .ref a_1, .ref a_2, .ref a_3, .ref a_4, .int 0, .ref a_5, .int 0, .int 0, .int 0, .int 0, .long 0, .int (-1), .int 0, .int 0, .ref a_6, .int 0, .ref a_7, .ref a_8, .int 0, .ref a_9, .ref a_10, .int 0, .int 0, .ref a_11, .ref a_12, .int 0, .ref a_13, .ref a_14, .int 0, .long 0, .long 0, .int e_cell, .int e_hour, .int e_way, .int e_bright, .int e_points, .ref a_15, .int e_through, .int e_seen, .ref a_16, .int 0, .ref a_17, .ref a_18, .ref a_19, .int 0, .ref a_20, .ref a_21, .long 0, .ref a_22, .int 0])), (a_19, .inl (G.2 0, 1536, .inl f_m))] s.heap.size = A at hD hT ⊢
  have hA : ∀ q : Nat, s.heap.size ≤ q → A q := fun q h => by rw [← hAe]; exact Or.inr h
  have hS : va_S A s.heap s.heap [] := va_S.rf
  have hP : va_P G.1 vwCl [(a_y, .inr (12, [.int 0, .int 0, .ref a_1, .ref a_2, .ref a_3, .ref a_4, .int 0, .ref a_5, .int 0, .int 0, .int 0, .int 0, .long 0, .int (-1), .int 0, .int 0, .ref a_6, .int 0, .ref a_7, .ref a_8, .int 0, .ref a_9, .ref a_10, .int 0, .int 0, .ref a_11, .ref a_12, .int 0, .ref a_13, .ref a_14, .int 0, .long 0, .long 0, .int e_cell, .int e_hour, .int e_way, .int e_bright, .int e_points, .ref a_15, .int e_through, .int e_seen, .ref a_16, .int 0, .ref a_17, .ref a_18, .ref a_19, .int 0, .ref a_20, .ref a_21, .long 0, .ref a_22, .int 0])), (a_19, .inl (G.2 0, 1536, .inl f_m))] s.heap := hP
  have hl := lv_entry ([.ref a_y, .int p_f, .int p_k, .int p_h]) (n := 5) (Nat.le_of_ble_eq_true rfl)
  rw [lg_entry_eq]
  generalize (lg_sl ([.ref a_y, .int p_f, .int p_k, .int p_h]) ++ List.replicate (5 - (lg_sl ([.ref a_y, .int p_f, .int p_k, .int p_h])).length) Slot.unset).toArray = ls at hl ⊢
  have hl : lv_has ls 5 [(0, .ref a_y), (1, .int p_f), (2, .int p_k), (3, .int p_h)] := hl
  refine lv_iload_n hx hb dX12_step_0 rfl (lv_at hl 2 rfl) ?_
  refine lv_iconst (v := 4) hx hb dX12_step_1 (by decide) ?_
  refine lv_icmp_ne (tgt := 9) hx hb dX12_step_2 (by decide) (fun c_1 => ?_) (fun c_1 => ?_)
  ·
    have i_1 : p_k.toInt ≠ 4 := by have z := g5_ne (a := p_k.toInt) (b := 4) (by rfl) (by decide) c_1; omega
    refine lv_iload_n hx hb dX12_step_9 rfl (lv_at hl 1 rfl) ?_
    refine lv_iload_n hx hb dX12_step_10 rfl (lv_at hl 2 rfl) ?_
    have hPc := hP.sub (ws' := []) [] rfl
    have hDc := hD.sub (ws' := []) [] (by decide) rfl
    have hFc := va_free (wc := []) hD hS hA [] rfl
    refine va_calli (va_runS (As := [.int p_f, .int p_k]) (rest := []) ⟨hx, hb, hml, hown, hts⟩ (k_mbeside2 l G s.heap.size p_f p_k ⟨by omega, by omega⟩ ⟨by omega, by omega⟩) (va_cwS 2 hts gS_X12_374 rfl rfl rfl hs_X12_beside ⟨Nat.le_of_ble_eq_true rfl, Nat.le_of_ble_eq_true rfl⟩) (g5_preS hPc hK hDc hN hT hS hFc) rfl rfl hl.1 rfl (lv_room (Nat.le_of_ble_eq_true rfl)) dX12_step_11 ⟨Nat.le_of_ble_eq_true rfl, Nat.le_of_ble_eq_true rfl⟩) hS (fun q _ h => hFc q h) hFc (fun r u t H1 locs ht hvm hw hB hz1 hk1 hS => ?_)
    obtain ⟨hP1, hD1⟩ := hB
    rw [ht] at hP1
    obtain ⟨z4, i_2, i_3, y5, rfl⟩ := hw
    have i_2 : z4.toInt = bs p_f.toInt p_k.toInt := i_2
    have i_3 : -1 ≤ z4.toInt ∧ z4.toInt ≤ 63 := i_3
    have hP := g5_same hP hk1
    generalize H1 = H at hP hS ⊢
    refine g5_ti (v := z4) y5 ?_
    refine lv_istore (lv' := [(4, .int z4), (0, .ref a_y), (1, .int p_f), (2, .int p_k), (3, .int p_h)]) hx hb dX12_step_14 hl (by decide) rfl (fun ls hl => ?_)
    refine lv_iload hx hb dX12_step_16 (lv_at hl 0 rfl) ?_
    refine lv_iconst (v := (-1)) hx hb dX12_step_18 (by decide) ?_
    refine lv_icmp_eq (tgt := 53) hx hb dX12_step_19 (by decide) (fun c_6 => ?_) (fun c_6 => ?_)
    ·
      have i_6 : z4.toInt = (-1) := by have z := g5_eq (a := z4.toInt) (b := (-1)) (by rfl) (by decide) c_6; omega
      refine lv_iconst (v := (-1)) hx hb dX12_step_53 (by decide) ?_
      exact W.iret (v := (-1)) hx hb hr (fun t ht hW => ⟨⟨(-1), [(a_y, .inr (12, [.int 0, .int 0, .ref a_1, .ref a_2, .ref a_3, .ref a_4, .int 0, .ref a_5, .int 0, .int 0, .int 0, .int 0, .long 0, .int (-1), .int 0, .int 0, .ref a_6, .int 0, .ref a_7, .ref a_8, .int 0, .ref a_9, .ref a_10, .int 0, .int 0, .ref a_11, .ref a_12, .int 0, .ref a_13, .ref a_14, .int 0, .long 0, .long 0, .int e_cell, .int e_hour, .int e_way, .int e_bright, .int e_points, .ref a_15, .int e_through, .int e_seen, .ref a_16, .int 0, .ref a_17, .ref a_18, .ref a_19, .int 0, .ref a_20, .ref a_21, .long 0, .ref a_22, .int 0])), (a_19, .inl (G.2 0, 1536, .inl f_m))], rfl, Or.inl (⟨g5_stF1 (by have z := i_2; omega), rfl, rfl⟩), by rw [ht]; exact hP.sub [0, 1] rfl, hD.sub [0, 1] (by decide) rfl⟩, hS.F ht⟩) hS.2.2 dX12_step_54
    ·
      have i_6 : z4.toInt ≠ (-1) := by have z := g5_eqN (a := z4.toInt) (b := (-1)) (by rfl) (by decide) c_6; omega
      refine lv_aload_n hx hb dX12_step_22 rfl (lv_at hl 1 rfl) ?_
      refine va_get (D := G.1) (ci := 12) (v := .ref a_19) (C := RX12) (T := TX12) (N := 52) hx hb hts inG_X12 hown hK hP 0 rfl rfl 45 (by decide) (hts _ fl_X12_95) (fun _ h9 => h9) rfl dX12_step_23 ?_
      refine lv_bipush (v := 64) hx hb dX12_step_26 (by decide) ?_
      refine lv_iload_n hx hb dX12_step_28 rfl (lv_at hl 4 rfl) ?_
      refine lv_imul hx hb dX12_step_29 ?_
      have t_7 : (64 * p_h).toInt = 64 * p_h.toInt := g5_imul (a := 64) (b := p_h.toInt) (by decide) (by rfl) (by omega) (by omega)
      refine lv_iload hx hb dX12_step_30 (lv_at hl 0 rfl) ?_
      refine lv_if_ge (tgt := 39) hx hb dX12_step_32 (by decide) (fun c_8 => ?_) (fun c_8 => ?_)
      ·
        have i_8 : z4.toInt ≥ 0 := by have z := g5_ge (a := z4.toInt) (b := 0) (by rfl) (by decide) c_8; omega
        refine lv_iload hx hb dX12_step_39 (lv_at hl 0 rfl) ?_
        refine lv_iadd hx hb dX12_step_41 ?_
        have t_9 : ((64 * p_h) + z4).toInt = (64 * p_h).toInt + z4.toInt := g5_iadd (a := (64 * p_h).toInt) (b := z4.toInt) (by rfl) (by rfl) (by omega) (by omega)
        have tz_10 := g5_clamp ((64 * p_h) + z4)
        refine va_iald hx hb hK hP 1 0 rfl rfl (i := ((64 * p_h) + z4)) (vp_in_iff.mpr ⟨by omega, by omega⟩) dX12_step_42 ?_
        refine lv_bipush (v := 64) hx hb dX12_step_43 (by decide) ?_
        refine lv_icmp_ge (tgt := 53) hx hb dX12_step_45 (by decide) (fun c_11 => ?_) (fun c_11 => ?_)
        ·
          have i_11 : (f_m ((64 * p_h) + z4).toNatClampNeg).toInt ≥ 64 := by have z := g5_ge (a := (f_m ((64 * p_h) + z4).toNatClampNeg).toInt) (b := 64) (by rfl) (by decide) c_11; omega
          refine lv_iconst (v := (-1)) hx hb dX12_step_53 (by decide) ?_
          exact W.iret (v := (-1)) hx hb hr (fun t ht hW => ⟨⟨(-1), [(a_y, .inr (12, [.int 0, .int 0, .ref a_1, .ref a_2, .ref a_3, .ref a_4, .int 0, .ref a_5, .int 0, .int 0, .int 0, .int 0, .long 0, .int (-1), .int 0, .int 0, .ref a_6, .int 0, .ref a_7, .ref a_8, .int 0, .ref a_9, .ref a_10, .int 0, .int 0, .ref a_11, .ref a_12, .int 0, .ref a_13, .ref a_14, .int 0, .long 0, .long 0, .int e_cell, .int e_hour, .int e_way, .int e_bright, .int e_points, .ref a_15, .int e_through, .int e_seen, .ref a_16, .int 0, .ref a_17, .ref a_18, .ref a_19, .int 0, .ref a_20, .ref a_21, .long 0, .ref a_22, .int 0])), (a_19, .inl (G.2 0, 1536, .inl f_m))], rfl, Or.inl (⟨g5_stF2 (r := z4) (y := ((64 * p_h) + z4)) i_2 (by omega) (by omega) (by omega), rfl, rfl⟩), by rw [ht]; exact hP.sub [0, 1] rfl, hD.sub [0, 1] (by decide) rfl⟩, hS.F ht⟩) hS.2.2 dX12_step_54
        ·
          have i_11 : (f_m ((64 * p_h) + z4).toNatClampNeg).toInt < 64 := by have z := g5_geN (a := (f_m ((64 * p_h) + z4).toNatClampNeg).toInt) (b := 64) (by rfl) (by decide) c_11; omega
          refine lv_iload hx hb dX12_step_48 (lv_at hl 0 rfl) ?_
          refine lv_goto (tgt := 54) hx hb dX12_step_50 (by decide) ?_
          exact W.iret (v := z4) hx hb hr (fun t ht hW => ⟨⟨z4, [(a_y, .inr (12, [.int 0, .int 0, .ref a_1, .ref a_2, .ref a_3, .ref a_4, .int 0, .ref a_5, .int 0, .int 0, .int 0, .int 0, .long 0, .int (-1), .int 0, .int 0, .ref a_6, .int 0, .ref a_7, .ref a_8, .int 0, .ref a_9, .ref a_10, .int 0, .int 0, .ref a_11, .ref a_12, .int 0, .ref a_13, .ref a_14, .int 0, .long 0, .long 0, .int e_cell, .int e_hour, .int e_way, .int e_bright, .int e_points, .ref a_15, .int e_through, .int e_seen, .ref a_16, .int 0, .ref a_17, .ref a_18, .ref a_19, .int 0, .ref a_20, .ref a_21, .long 0, .ref a_22, .int 0])), (a_19, .inl (G.2 0, 1536, .inl f_m))], rfl, Or.inr (⟨z4, g5_stF3 (y := ((64 * p_h) + z4)) i_2 (by omega) (by omega) (by omega), ⟨by omega, by omega⟩, rfl, rfl⟩), by rw [ht]; exact hP.sub [0, 1] rfl, hD.sub [0, 1] (by decide) rfl⟩, hS.F ht⟩) hS.2.2 dX12_step_54
      ·
        have i_8 : z4.toInt < 0 := by have z := g5_geN (a := z4.toInt) (b := 0) (by rfl) (by decide) c_8; omega
        omega
  ·
    have i_1 : p_k.toInt = 4 := by have z := g5_neN (a := p_k.toInt) (b := 4) (by rfl) (by decide) c_1; omega
    refine lv_iload_n hx hb dX12_step_5 rfl (lv_at hl 1 rfl) ?_
    refine lv_goto (tgt := 14) hx hb dX12_step_6 (by decide) ?_
    refine lv_istore (lv' := [(4, .int p_f), (0, .ref a_y), (1, .int p_f), (2, .int p_k), (3, .int p_h)]) hx hb dX12_step_14 hl (by decide) rfl (fun ls hl => ?_)
    refine lv_iload hx hb dX12_step_16 (lv_at hl 0 rfl) ?_
    refine lv_iconst (v := (-1)) hx hb dX12_step_18 (by decide) ?_
    refine lv_icmp_eq (tgt := 53) hx hb dX12_step_19 (by decide) (fun c_12 => ?_) (fun c_12 => ?_)
    ·
      have i_12 : p_f.toInt = (-1) := by have z := g5_eq (a := p_f.toInt) (b := (-1)) (by rfl) (by decide) c_12; omega
      omega
    ·
      have i_12 : p_f.toInt ≠ (-1) := by have z := g5_eqN (a := p_f.toInt) (b := (-1)) (by rfl) (by decide) c_12; omega
      refine lv_aload_n hx hb dX12_step_22 rfl (lv_at hl 1 rfl) ?_
      refine va_get (D := G.1) (ci := 12) (v := .ref a_19) (C := RX12) (T := TX12) (N := 52) hx hb hts inG_X12 hown hK hP 0 rfl rfl 45 (by decide) (hts _ fl_X12_95) (fun _ h9 => h9) rfl dX12_step_23 ?_
      refine lv_bipush (v := 64) hx hb dX12_step_26 (by decide) ?_
      refine lv_iload_n hx hb dX12_step_28 rfl (lv_at hl 4 rfl) ?_
      refine lv_imul hx hb dX12_step_29 ?_
      have t_13 : (64 * p_h).toInt = 64 * p_h.toInt := g5_imul (a := 64) (b := p_h.toInt) (by decide) (by rfl) (by omega) (by omega)
      refine lv_iload hx hb dX12_step_30 (lv_at hl 0 rfl) ?_
      refine lv_if_ge (tgt := 39) hx hb dX12_step_32 (by decide) (fun c_14 => ?_) (fun c_14 => ?_)
      ·
        have i_14 : p_f.toInt ≥ 0 := by have z := g5_ge (a := p_f.toInt) (b := 0) (by rfl) (by decide) c_14; omega
        refine lv_iload hx hb dX12_step_39 (lv_at hl 0 rfl) ?_
        refine lv_iadd hx hb dX12_step_41 ?_
        have t_15 : ((64 * p_h) + p_f).toInt = (64 * p_h).toInt + p_f.toInt := g5_iadd (a := (64 * p_h).toInt) (b := p_f.toInt) (by rfl) (by rfl) (by omega) (by omega)
        have tz_16 := g5_clamp ((64 * p_h) + p_f)
        refine va_iald hx hb hK hP 1 0 rfl rfl (i := ((64 * p_h) + p_f)) (vp_in_iff.mpr ⟨by omega, by omega⟩) dX12_step_42 ?_
        refine lv_bipush (v := 64) hx hb dX12_step_43 (by decide) ?_
        refine lv_icmp_ge (tgt := 53) hx hb dX12_step_45 (by decide) (fun c_17 => ?_) (fun c_17 => ?_)
        ·
          have i_17 : (f_m ((64 * p_h) + p_f).toNatClampNeg).toInt ≥ 64 := by have z := g5_ge (a := (f_m ((64 * p_h) + p_f).toNatClampNeg).toInt) (b := 64) (by rfl) (by decide) c_17; omega
          refine lv_iconst (v := (-1)) hx hb dX12_step_53 (by decide) ?_
          exact W.iret (v := (-1)) hx hb hr (fun t ht hW => ⟨⟨(-1), [(a_y, .inr (12, [.int 0, .int 0, .ref a_1, .ref a_2, .ref a_3, .ref a_4, .int 0, .ref a_5, .int 0, .int 0, .int 0, .int 0, .long 0, .int (-1), .int 0, .int 0, .ref a_6, .int 0, .ref a_7, .ref a_8, .int 0, .ref a_9, .ref a_10, .int 0, .int 0, .ref a_11, .ref a_12, .int 0, .ref a_13, .ref a_14, .int 0, .long 0, .long 0, .int e_cell, .int e_hour, .int e_way, .int e_bright, .int e_points, .ref a_15, .int e_through, .int e_seen, .ref a_16, .int 0, .ref a_17, .ref a_18, .ref a_19, .int 0, .ref a_20, .ref a_21, .long 0, .ref a_22, .int 0])), (a_19, .inl (G.2 0, 1536, .inl f_m))], rfl, Or.inl (⟨g5_stF2 (r := p_f) (y := ((64 * p_h) + p_f)) (g5_bs4 (by omega)) (by omega) (by omega) (by omega), rfl, rfl⟩), by rw [ht]; exact hP.sub [0, 1] rfl, hD.sub [0, 1] (by decide) rfl⟩, hS.F ht⟩) hS.2.2 dX12_step_54
        ·
          have i_17 : (f_m ((64 * p_h) + p_f).toNatClampNeg).toInt < 64 := by have z := g5_geN (a := (f_m ((64 * p_h) + p_f).toNatClampNeg).toInt) (b := 64) (by rfl) (by decide) c_17; omega
          refine lv_iload hx hb dX12_step_48 (lv_at hl 0 rfl) ?_
          refine lv_goto (tgt := 54) hx hb dX12_step_50 (by decide) ?_
          exact W.iret (v := p_f) hx hb hr (fun t ht hW => ⟨⟨p_f, [(a_y, .inr (12, [.int 0, .int 0, .ref a_1, .ref a_2, .ref a_3, .ref a_4, .int 0, .ref a_5, .int 0, .int 0, .int 0, .int 0, .long 0, .int (-1), .int 0, .int 0, .ref a_6, .int 0, .ref a_7, .ref a_8, .int 0, .ref a_9, .ref a_10, .int 0, .int 0, .ref a_11, .ref a_12, .int 0, .ref a_13, .ref a_14, .int 0, .long 0, .long 0, .int e_cell, .int e_hour, .int e_way, .int e_bright, .int e_points, .ref a_15, .int e_through, .int e_seen, .ref a_16, .int 0, .ref a_17, .ref a_18, .ref a_19, .int 0, .ref a_20, .ref a_21, .long 0, .ref a_22, .int 0])), (a_19, .inl (G.2 0, 1536, .inl f_m))], rfl, Or.inr (⟨p_f, g5_stF3 (y := ((64 * p_h) + p_f)) (g5_bs4 (by omega)) (by omega) (by omega) (by omega), ⟨by omega, by omega⟩, rfl, rfl⟩), by rw [ht]; exact hP.sub [0, 1] rfl, hD.sub [0, 1] (by decide) rfl⟩, hS.F ht⟩) hS.2.2 dX12_step_54
      ·
        have i_14 : p_f.toInt < 0 := by have z := g5_geN (a := p_f.toInt) (b := 0) (by rfl) (by decide) c_14; omega
        omega
theorem dX12_comesFrom_0 : decode cX12_comesFrom 0 = .ok (.iconst 0, 1) := by decide +kernel
theorem dX12_comesFrom_1 : decode cX12_comesFrom 1 = .ok (.istore_n 3, 1) := by decide +kernel
theorem dX12_comesFrom_2 : decode cX12_comesFrom 2 = .ok (.iload_n 3, 1) := by decide +kernel
theorem dX12_comesFrom_3 : decode cX12_comesFrom 3 = .ok (.iconst 5, 1) := by decide +kernel
theorem dX12_comesFrom_4 : decode cX12_comesFrom 4 = .ok (.if_icmp .ge 97, 3) := by decide +kernel
theorem dX12_comesFrom_7 : decode cX12_comesFrom 7 = .ok (.aload_n 0, 1) := by decide +kernel
theorem dX12_comesFrom_8 : decode cX12_comesFrom 8 = .ok (.iload_n 2, 1) := by decide +kernel
theorem dX12_comesFrom_9 : decode cX12_comesFrom 9 = .ok (.iload_n 3, 1) := by decide +kernel
theorem dX12_comesFrom_10 : decode cX12_comesFrom 10 = .ok (.iload_n 1, 1) := by decide +kernel
theorem dX12_comesFrom_11 : decode cX12_comesFrom 11 = .ok (.iconst 1, 1) := by decide +kernel
theorem dX12_comesFrom_12 : decode cX12_comesFrom 12 = .ok (.iadd, 1) := by decide +kernel
theorem dX12_comesFrom_13 : decode cX12_comesFrom 13 = .ok (.invokevirtual 437, 3) := by decide +kernel
theorem dX12_comesFrom_16 : decode cX12_comesFrom 16 = .ok (.istore 4, 2) := by decide +kernel
theorem dX12_comesFrom_18 : decode cX12_comesFrom 18 = .ok (.iconst 0, 1) := by decide +kernel
theorem dX12_comesFrom_19 : decode cX12_comesFrom 19 = .ok (.istore 5, 2) := by decide +kernel
theorem dX12_comesFrom_21 : decode cX12_comesFrom 21 = .ok (.iload 5, 2) := by decide +kernel
theorem dX12_comesFrom_23 : decode cX12_comesFrom 23 = .ok (.bipush 32, 2) := by decide +kernel
theorem dX12_comesFrom_25 : decode cX12_comesFrom 25 = .ok (.if_icmp .ge 70, 3) := by decide +kernel
theorem dX12_comesFrom_28 : decode cX12_comesFrom 28 = .ok (.iload 4, 2) := by decide +kernel
theorem dX12_comesFrom_30 : decode cX12_comesFrom 30 = .ok (.iconst (-1), 1) := by decide +kernel
theorem dX12_comesFrom_31 : decode cX12_comesFrom 31 = .ok (.if_icmp .eq 64, 3) := by decide +kernel
theorem dX12_comesFrom_34 : decode cX12_comesFrom 34 = .ok (.aload_n 0, 1) := by decide +kernel
theorem dX12_comesFrom_35 : decode cX12_comesFrom 35 = .ok (.getfield 92, 3) := by decide +kernel
theorem dX12_comesFrom_38 : decode cX12_comesFrom 38 = .ok (.bipush 32, 2) := by decide +kernel
theorem dX12_comesFrom_40 : decode cX12_comesFrom 40 = .ok (.bipush 64, 2) := by decide +kernel
theorem dX12_comesFrom_42 : decode cX12_comesFrom 42 = .ok (.iload_n 1, 1) := by decide +kernel
theorem dX12_comesFrom_43 : decode cX12_comesFrom 43 = .ok (.imul, 1) := by decide +kernel
theorem dX12_comesFrom_44 : decode cX12_comesFrom 44 = .ok (.iload_n 2, 1) := by decide +kernel
theorem dX12_comesFrom_45 : decode cX12_comesFrom 45 = .ok (.iadd, 1) := by decide +kernel
theorem dX12_comesFrom_46 : decode cX12_comesFrom 46 = .ok (.imul, 1) := by decide +kernel
theorem dX12_comesFrom_47 : decode cX12_comesFrom 47 = .ok (.iload 5, 2) := by decide +kernel
theorem dX12_comesFrom_49 : decode cX12_comesFrom 49 = .ok (.iadd, 1) := by decide +kernel
theorem dX12_comesFrom_50 : decode cX12_comesFrom 50 = .ok (.dup2, 1) := by decide +kernel
theorem dX12_comesFrom_51 : decode cX12_comesFrom 51 = .ok (.laload, 1) := by decide +kernel
theorem dX12_comesFrom_52 : decode cX12_comesFrom 52 = .ok (.aload_n 0, 1) := by decide +kernel
theorem dX12_comesFrom_53 : decode cX12_comesFrom 53 = .ok (.getfield 92, 3) := by decide +kernel
theorem dX12_comesFrom_56 : decode cX12_comesFrom 56 = .ok (.bipush 32, 2) := by decide +kernel
theorem dX12_comesFrom_58 : decode cX12_comesFrom 58 = .ok (.bipush 64, 2) := by decide +kernel
theorem dX12_comesFrom_60 : decode cX12_comesFrom 60 = .ok (.iload_n 1, 1) := by decide +kernel
theorem dX12_comesFrom_61 : decode cX12_comesFrom 61 = .ok (.iconst 1, 1) := by decide +kernel
theorem dX12_comesFrom_62 : decode cX12_comesFrom 62 = .ok (.iadd, 1) := by decide +kernel
theorem dX12_comesFrom_63 : decode cX12_comesFrom 63 = .ok (.imul, 1) := by decide +kernel
theorem dX12_comesFrom_64 : decode cX12_comesFrom 64 = .ok (.iload 4, 2) := by decide +kernel
theorem dX12_comesFrom_66 : decode cX12_comesFrom 66 = .ok (.iadd, 1) := by decide +kernel
theorem dX12_comesFrom_67 : decode cX12_comesFrom 67 = .ok (.imul, 1) := by decide +kernel
theorem dX12_comesFrom_68 : decode cX12_comesFrom 68 = .ok (.iload 5, 2) := by decide +kernel
theorem dX12_comesFrom_70 : decode cX12_comesFrom 70 = .ok (.aload_n 0, 1) := by decide +kernel
theorem dX12_comesFrom_71 : decode cX12_comesFrom 71 = .ok (.getfield 95, 3) := by decide +kernel
theorem dX12_comesFrom_74 : decode cX12_comesFrom 74 = .ok (.bipush 64, 2) := by decide +kernel
theorem dX12_comesFrom_76 : decode cX12_comesFrom 76 = .ok (.iload_n 1, 1) := by decide +kernel
theorem dX12_comesFrom_77 : decode cX12_comesFrom 77 = .ok (.iconst 1, 1) := by decide +kernel
theorem dX12_comesFrom_78 : decode cX12_comesFrom 78 = .ok (.iadd, 1) := by decide +kernel
theorem dX12_comesFrom_79 : decode cX12_comesFrom 79 = .ok (.imul, 1) := by decide +kernel
theorem dX12_comesFrom_80 : decode cX12_comesFrom 80 = .ok (.iload 4, 2) := by decide +kernel
theorem dX12_comesFrom_82 : decode cX12_comesFrom 82 = .ok (.iadd, 1) := by decide +kernel
theorem dX12_comesFrom_83 : decode cX12_comesFrom 83 = .ok (.iaload, 1) := by decide +kernel
theorem dX12_comesFrom_84 : decode cX12_comesFrom 84 = .ok (.ior, 1) := by decide +kernel
theorem dX12_comesFrom_85 : decode cX12_comesFrom 85 = .ok (.iadd, 1) := by decide +kernel
theorem dX12_comesFrom_86 : decode cX12_comesFrom 86 = .ok (.laload, 1) := by decide +kernel
theorem dX12_comesFrom_87 : decode cX12_comesFrom 87 = .ok (.ladd, 1) := by decide +kernel
theorem dX12_comesFrom_88 : decode cX12_comesFrom 88 = .ok (.lastore, 1) := by decide +kernel
theorem dX12_comesFrom_89 : decode cX12_comesFrom 89 = .ok (.iinc 5 1, 3) := by decide +kernel
theorem dX12_comesFrom_92 : decode cX12_comesFrom 92 = .ok (.goto (-71), 3) := by decide +kernel
theorem dX12_comesFrom_95 : decode cX12_comesFrom 95 = .ok (.iinc 3 1, 3) := by decide +kernel
theorem dX12_comesFrom_98 : decode cX12_comesFrom 98 = .ok (.goto (-96), 3) := by decide +kernel
theorem dX12_comesFrom_101 : decode cX12_comesFrom 101 = .ok (.return_, 1) := by decide +kernel
theorem ml_X12_437 : Cond.methodLink RX12 437 yX12_step ∈ tblG := tg 1728 (by decide +kernel) (by decide +kernel)
theorem im_X12_step : Cond.instanceMethod yX12_step ∈ tblG := tg 1730 (by decide +kernel) (by decide +kernel)
theorem se_X12_step : Cond.selects RX12 yX12_step yX12_step ∈ tblG := tg 79 (by decide +kernel) (by decide +kernel)
theorem cd_X12_step : Cond.code yX12_step cX12_step 5 (some .int) ∈ tblG := tg 1731 (by decide +kernel) (by decide +kernel)
theorem gW_X12_step : GoodIn tblG (wsG yX12_step cX12_step 5 (some .int)) := tgi cd_X12_step
theorem gV_X12_437 : GoodIn tblG (wsV RX12 437 RX12 yX12_step (wsG yX12_step cX12_step 5 (some .int))) := tgV ml_X12_437 im_X12_step se_X12_step ini_X12 gW_X12_step
theorem hv_X12_step : yX12_step.cls = RX12 ∧ yX12_step.cls ≠ "java/lang/invoke/MethodHandle" ∧ yX12_step.cls ≠ "java/lang/invoke/VarHandle" ∧ (parseMethodDescriptor yX12_step.desc).map (fun d => d.parameters.length) = some 3 := by decide +kernel
set_option maxHeartbeats 4000000 in
set_option maxRecDepth 100000 in
theorem k_comesFrom (l : Launch) (G : g5_G) (a_y a_19 a_18 a_1 a_2 a_3 a_4 a_5 a_6 a_7 a_8 a_9 a_10 a_11 a_12 a_13 a_14 a_15 a_16 a_17 a_20 a_21 a_22 : Nat) (sz : Nat) (e_cell : Int32) (e_hour : Int32) (e_way : Int32) (e_bright : Int32) (e_points : Int32) (e_through : Int32) (e_seen : Int32) (p_h : Int32) (p_c : Int32) (f_m : Nat → Int32) (f_d : Nat → Int64) (h_p_h : 0 ≤ p_h.toInt ∧ p_h.toInt ≤ 22) (h_p_c : 0 ≤ p_c.toInt ∧ p_c.toInt ≤ 63) (e_m : ∀ j : Nat, j < 1536 → f_m j = 0 ∨ f_m j = 64) : Met l yX12_comesFrom (wsG yX12_comesFrom cX12_comesFrom 6 none) ({ frames := 2, cells := 0, slots := 0, locals := 45 }) (va_Pc [.ref a_y, .int p_h, .int p_c] (g5_P G [(a_y, .inr (12, [.int 0, .int 0, .ref a_1, .ref a_2, .ref a_3, .ref a_4, .int 0, .ref a_5, .int 0, .int 0, .int 0, .int 0, .long 0, .int (-1), .int 0, .int 0, .ref a_6, .int 0, .ref a_7, .ref a_8, .int 0, .ref a_9, .ref a_10, .int 0, .int 0, .ref a_11, .ref a_12, .int 0, .ref a_13, .ref a_14, .int 0, .long 0, .long 0, .int e_cell, .int e_hour, .int e_way, .int e_bright, .int e_points, .ref a_15, .int e_through, .int e_seen, .ref a_16, .int 0, .ref a_17, .ref a_18, .ref a_19, .int 0, .ref a_20, .ref a_21, .long 0, .ref a_22, .int 0])), (a_19, .inl (G.2 0, 1536, .inl f_m)), (a_18, .inl (G.2 1, 49152, .inr (.inl f_d)))] sz)) (va_Qv (fun (u : va_W) => (∃ (o_d : Nat → Int64), (∀ q : Int, 0 ≤ q → q < 32 → fz o_d ((32 * (64 * p_h.toInt + p_c.toInt)) + q) = psA f_m f_d p_h.toInt p_c.toInt q 5) ∧ (∀ i : Int, 0 ≤ i → (i < (32 * (64 * p_h.toInt + p_c.toInt)) ∨ (32 * (64 * p_h.toInt + p_c.toInt)) + 32 ≤ i) → fz o_d i = fz f_d i) ∧ (u = [(a_y, .inr (12, [.int 0, .int 0, .ref a_1, .ref a_2, .ref a_3, .ref a_4, .int 0, .ref a_5, .int 0, .int 0, .int 0, .int 0, .long 0, .int (-1), .int 0, .int 0, .ref a_6, .int 0, .ref a_7, .ref a_8, .int 0, .ref a_9, .ref a_10, .int 0, .int 0, .ref a_11, .ref a_12, .int 0, .ref a_13, .ref a_14, .int 0, .long 0, .long 0, .int e_cell, .int e_hour, .int e_way, .int e_bright, .int e_points, .ref a_15, .int e_through, .int e_seen, .ref a_16, .int 0, .ref a_17, .ref a_18, .ref a_19, .int 0, .ref a_20, .ref a_21, .long 0, .ref a_22, .int 0])), (a_19, .inl (G.2 0, 1536, .inl f_m)), (a_18, .inl (G.2 1, 49152, .inr (.inl o_d)))]))) (g5_B G (va_A [(a_y, .inr (12, [.int 0, .int 0, .ref a_1, .ref a_2, .ref a_3, .ref a_4, .int 0, .ref a_5, .int 0, .int 0, .int 0, .int 0, .long 0, .int (-1), .int 0, .int 0, .ref a_6, .int 0, .ref a_7, .ref a_8, .int 0, .ref a_9, .ref a_10, .int 0, .int 0, .ref a_11, .ref a_12, .int 0, .ref a_13, .ref a_14, .int 0, .long 0, .long 0, .int e_cell, .int e_hour, .int e_way, .int e_bright, .int e_points, .ref a_15, .int e_through, .int e_seen, .ref a_16, .int 0, .ref a_17, .ref a_18, .ref a_19, .int 0, .ref a_20, .ref a_21, .long 0, .ref a_22, .int 0])), (a_19, .inl (G.2 0, 1536, .inl f_m)), (a_18, .inl (G.2 1, 49152, .inr (.inl f_d)))] sz)) (va_A [(a_y, .inr (12, [.int 0, .int 0, .ref a_1, .ref a_2, .ref a_3, .ref a_4, .int 0, .ref a_5, .int 0, .int 0, .int 0, .int 0, .long 0, .int (-1), .int 0, .int 0, .ref a_6, .int 0, .ref a_7, .ref a_8, .int 0, .ref a_9, .ref a_10, .int 0, .int 0, .ref a_11, .ref a_12, .int 0, .ref a_13, .ref a_14, .int 0, .long 0, .long 0, .int e_cell, .int e_hour, .int e_way, .int e_bright, .int e_points, .ref a_15, .int e_through, .int e_seen, .ref a_16, .int 0, .ref a_17, .ref a_18, .ref a_19, .int 0, .ref a_20, .ref a_21, .long 0, .ref a_22, .int 0])), (a_19, .inl (G.2 0, 1536, .inl f_m)), (a_18, .inl (G.2 1, 49152, .inr (.inl f_d)))] sz)) 0 0 (va_A [(a_y, .inr (12, [.int 0, .int 0, .ref a_1, .ref a_2, .ref a_3, .ref a_4, .int 0, .ref a_5, .int 0, .int 0, .int 0, .int 0, .long 0, .int (-1), .int 0, .int 0, .ref a_6, .int 0, .ref a_7, .ref a_8, .int 0, .ref a_9, .ref a_10, .int 0, .int 0, .ref a_11, .ref a_12, .int 0, .ref a_13, .ref a_14, .int 0, .long 0, .long 0, .int e_cell, .int e_hour, .int e_way, .int e_bright, .int e_points, .ref a_15, .int e_through, .int e_seen, .ref a_16, .int 0, .ref a_17, .ref a_18, .ref a_19, .int 0, .ref a_20, .ref a_21, .long 0, .ref a_22, .int 0])), (a_19, .inl (G.2 0, 1536, .inl f_m)), (a_18, .inl (G.2 1, 49152, .inr (.inl f_d)))] sz) := by
  refine Met.ofW (cc := cX12_comesFrom) (maxL := 6) (ret := none) (by decide) rfl ?_
  intro p e s m args below meth c s₁ B hml hv
  obtain ⟨rfl, hsz, hP, hK, hD0, hN, hT⟩ := hv
  have hx := B.exec
  have hb := B.bytes
  have hr := B.returns
  have hts : ∀ w ∈ tblG, w.before _ s = true := fun w h => atoms_spec (ws := (wsG yX12_comesFrom cX12_comesFrom 6 none)) B.pre w (List.mem_cons_of_mem _ h)
  have hown : s.vm.findClass RX12 = some m.cls := findClass_of_methodNamed B.named
  have hlocks := B.notSynchronized
  subst hsz
  have hD := hD0.self (sz := s.heap.size)
  generalize hAe : va_A [(a_y, .inr (12, [.int 0, .int 0, .ref a_1, .ref a_2, .ref a_3, .ref a_4, .int 0, .ref a_5, .int 0, .int 0, .int 0, .int 0, .long 0, .int (-1), .int 0, .int 0, .ref a_6, .int 0, .ref a_7, .ref a_8, .int 0, .ref a_9, .ref a_10, .int 0, .int 0, .ref a_11, .ref a_12, .int 0, .ref a_13, .ref a_14, .int 0, .long 0, .long 0, .int e_cell, .int e_hour, .int e_way, .int e_bright, .int e_points, .ref a_15, .int e_through, .int e_seen, .ref a_16, .int 0, .ref a_17, .ref a_18, .ref a_19, .int 0, .ref a_20, .ref a_21, .long 0, .ref a_22, .int 0])), (a_19, .inl (G.2 0, 1536, .inl f_m)), (a_18, .inl (G.2 1, 49152, .inr (.inl f_d)))] s.heap.size = A at hD hT ⊢
  have hA : ∀ q : Nat, s.heap.size ≤ q → A q := fun q h => by rw [← hAe]; exact Or.inr h
  have hS : va_S A s.heap s.heap [] := va_S.rf
  have hP : va_P G.1 vwCl [(a_y, .inr (12, [.int 0, .int 0, .ref a_1, .ref a_2, .ref a_3, .ref a_4, .int 0, .ref a_5, .int 0, .int 0, .int 0, .int 0, .long 0, .int (-1), .int 0, .int 0, .ref a_6, .int 0, .ref a_7, .ref a_8, .int 0, .ref a_9, .ref a_10, .int 0, .int 0, .ref a_11, .ref a_12, .int 0, .ref a_13, .ref a_14, .int 0, .long 0, .long 0, .int e_cell, .int e_hour, .int e_way, .int e_bright, .int e_points, .ref a_15, .int e_through, .int e_seen, .ref a_16, .int 0, .ref a_17, .ref a_18, .ref a_19, .int 0, .ref a_20, .ref a_21, .long 0, .ref a_22, .int 0])), (a_19, .inl (G.2 0, 1536, .inl f_m)), (a_18, .inl (G.2 1, 49152, .inr (.inl f_d)))] s.heap := hP
  have hl := lv_entry ([.ref a_y, .int p_h, .int p_c]) (n := 6) (Nat.le_of_ble_eq_true rfl)
  rw [lg_entry_eq]
  generalize (lg_sl ([.ref a_y, .int p_h, .int p_c]) ++ List.replicate (6 - (lg_sl ([.ref a_y, .int p_h, .int p_c])).length) Slot.unset).toArray = ls at hl ⊢
  have hl : lv_has ls 6 [(0, .ref a_y), (1, .int p_h), (2, .int p_c)] := hl
  refine lv_iconst (v := 0) hx hb dX12_comesFrom_0 (by decide) ?_
  refine lv_istore_n (lv' := [(3, .int 0), (0, .ref a_y), (1, .int p_h), (2, .int p_c)]) hx hb dX12_comesFrom_1 rfl hl (by decide) rfl (fun ls hl => ?_)
  refine g5_loop (α := (Int32) × (Nat → Int64)) (fun (q : (Int32) × (Nat → Int64)) (ls : Array Slot) (H : Heap) (locs : List Loc) => match q with | (k_k, k_f) => lv_has ls 6 [(3, .int k_k), (0, .ref a_y), (1, .int p_h), (2, .int p_c)] ∧ va_P G.1 vwCl [(a_y, .inr (12, [.int 0, .int 0, .ref a_1, .ref a_2, .ref a_3, .ref a_4, .int 0, .ref a_5, .int 0, .int 0, .int 0, .int 0, .long 0, .int (-1), .int 0, .int 0, .ref a_6, .int 0, .ref a_7, .ref a_8, .int 0, .ref a_9, .ref a_10, .int 0, .int 0, .ref a_11, .ref a_12, .int 0, .ref a_13, .ref a_14, .int 0, .long 0, .long 0, .int e_cell, .int e_hour, .int e_way, .int e_bright, .int e_points, .ref a_15, .int e_through, .int e_seen, .ref a_16, .int 0, .ref a_17, .ref a_18, .ref a_19, .int 0, .ref a_20, .ref a_21, .long 0, .ref a_22, .int 0])), (a_19, .inl (G.2 0, 1536, .inl f_m)), (a_18, .inl (G.2 1, 49152, .inr (.inl k_f)))] H ∧ va_D A [(a_y, .inr (12, [.int 0, .int 0, .ref a_1, .ref a_2, .ref a_3, .ref a_4, .int 0, .ref a_5, .int 0, .int 0, .int 0, .int 0, .long 0, .int (-1), .int 0, .int 0, .ref a_6, .int 0, .ref a_7, .ref a_8, .int 0, .ref a_9, .ref a_10, .int 0, .int 0, .ref a_11, .ref a_12, .int 0, .ref a_13, .ref a_14, .int 0, .long 0, .long 0, .int e_cell, .int e_hour, .int e_way, .int e_bright, .int e_points, .ref a_15, .int e_through, .int e_seen, .ref a_16, .int 0, .ref a_17, .ref a_18, .ref a_19, .int 0, .ref a_20, .ref a_21, .long 0, .ref a_22, .int 0])), (a_19, .inl (G.2 0, 1536, .inl f_m)), (a_18, .inl (G.2 1, 49152, .inr (.inl k_f)))] ∧ va_S A s.heap H locs ∧ (0 ≤ k_k.toInt ∧ k_k.toInt ≤ 5) ∧ (∀ q : Int, 0 ≤ q → q < 32 → fz k_f ((32 * (64 * p_h.toInt + p_c.toInt)) + q) = psA f_m f_d p_h.toInt p_c.toInt q k_k.toInt.toNat) ∧ (∀ i : Int, 0 ≤ i → (i < (32 * (64 * p_h.toInt + p_c.toInt)) ∨ (32 * (64 * p_h.toInt + p_c.toInt)) + 32 ≤ i) → fz k_f i = fz f_d i)) (fun (q : (Int32) × (Nat → Int64)) => match q with | (k_k, k_f) => Int.toNat (5 - k_k.toInt)) (0, f_d) ⟨lv_sub hl [0, 1, 2, 3] rfl, hP, hD, hS, ⟨by decide, by decide⟩, g5_psAz, fun _ _ _ => rfl⟩ ?_
  rintro ⟨k_k, k_f⟩ ls H locs ⟨hl, hP, hD, hS, i_1, i_2, i_3⟩ ih_2_4
  have hl : lv_has ls 6 [(3, .int k_k), (0, .ref a_y), (1, .int p_h), (2, .int p_c)] := hl
  have i_1 : 0 ≤ k_k.toInt ∧ k_k.toInt ≤ 5 := i_1
  have i_2 : ∀ q : Int, 0 ≤ q → q < 32 → fz k_f ((32 * (64 * p_h.toInt + p_c.toInt)) + q) = psA f_m f_d p_h.toInt p_c.toInt q k_k.toInt.toNat := i_2
  have i_3 : ∀ i : Int, 0 ≤ i → (i < (32 * (64 * p_h.toInt + p_c.toInt)) ∨ (32 * (64 * p_h.toInt + p_c.toInt)) + 32 ≤ i) → fz k_f i = fz f_d i := i_3
  have hP : va_P G.1 vwCl [(a_y, .inr (12, [.int 0, .int 0, .ref a_1, .ref a_2, .ref a_3, .ref a_4, .int 0, .ref a_5, .int 0, .int 0, .int 0, .int 0, .long 0, .int (-1), .int 0, .int 0, .ref a_6, .int 0, .ref a_7, .ref a_8, .int 0, .ref a_9, .ref a_10, .int 0, .int 0, .ref a_11, .ref a_12, .int 0, .ref a_13, .ref a_14, .int 0, .long 0, .long 0, .int e_cell, .int e_hour, .int e_way, .int e_bright, .int e_points, .ref a_15, .int e_through, .int e_seen, .ref a_16, .int 0, .ref a_17, .ref a_18, .ref a_19, .int 0, .ref a_20, .ref a_21, .long 0, .ref a_22, .int 0])), (a_19, .inl (G.2 0, 1536, .inl f_m)), (a_18, .inl (G.2 1, 49152, .inr (.inl k_f)))] H := hP
  have hD : va_D A [(a_y, .inr (12, [.int 0, .int 0, .ref a_1, .ref a_2, .ref a_3, .ref a_4, .int 0, .ref a_5, .int 0, .int 0, .int 0, .int 0, .long 0, .int (-1), .int 0, .int 0, .ref a_6, .int 0, .ref a_7, .ref a_8, .int 0, .ref a_9, .ref a_10, .int 0, .int 0, .ref a_11, .ref a_12, .int 0, .ref a_13, .ref a_14, .int 0, .long 0, .long 0, .int e_cell, .int e_hour, .int e_way, .int e_bright, .int e_points, .ref a_15, .int e_through, .int e_seen, .ref a_16, .int 0, .ref a_17, .ref a_18, .ref a_19, .int 0, .ref a_20, .ref a_21, .long 0, .ref a_22, .int 0])), (a_19, .inl (G.2 0, 1536, .inl f_m)), (a_18, .inl (G.2 1, 49152, .inr (.inl k_f)))] := hD
  refine lv_iload_n hx hb dX12_comesFrom_2 rfl (lv_at hl 0 rfl) ?_
  refine lv_iconst (v := 5) hx hb dX12_comesFrom_3 (by decide) ?_
  refine lv_icmp_ge (tgt := 101) hx hb dX12_comesFrom_4 (by decide) (fun c_5 => ?_) (fun c_5 => ?_)
  ·
    have i_5 : k_k.toInt ≥ 5 := by have z := g5_ge (a := k_k.toInt) (b := 5) (by rfl) (by decide) c_5; omega
    exact W.vret hx hb hr (fun t ht hW => ⟨⟨[(a_y, .inr (12, [.int 0, .int 0, .ref a_1, .ref a_2, .ref a_3, .ref a_4, .int 0, .ref a_5, .int 0, .int 0, .int 0, .int 0, .long 0, .int (-1), .int 0, .int 0, .ref a_6, .int 0, .ref a_7, .ref a_8, .int 0, .ref a_9, .ref a_10, .int 0, .int 0, .ref a_11, .ref a_12, .int 0, .ref a_13, .ref a_14, .int 0, .long 0, .long 0, .int e_cell, .int e_hour, .int e_way, .int e_bright, .int e_points, .ref a_15, .int e_through, .int e_seen, .ref a_16, .int 0, .ref a_17, .ref a_18, .ref a_19, .int 0, .ref a_20, .ref a_21, .long 0, .ref a_22, .int 0])), (a_19, .inl (G.2 0, 1536, .inl f_m)), (a_18, .inl (G.2 1, 49152, .inr (.inl k_f)))], rfl, ⟨k_f, fun q h1 h2 => by rw [i_2 q h1 h2, show k_k.toInt.toNat = 5 by omega], i_3, rfl⟩, by rw [ht]; exact hP.sub [0, 1, 2] rfl, hD.sub [0, 1, 2] (by decide) rfl⟩, hS.F ht⟩) hS.2.2 dX12_comesFrom_101
  ·
    have i_5 : k_k.toInt < 5 := by have z := g5_geN (a := k_k.toInt) (b := 5) (by rfl) (by decide) c_5; omega
    refine lv_aload_n hx hb dX12_comesFrom_7 rfl (lv_at hl 1 rfl) ?_
    refine lv_iload_n hx hb dX12_comesFrom_8 rfl (lv_at hl 3 rfl) ?_
    refine lv_iload_n hx hb dX12_comesFrom_9 rfl (lv_at hl 0 rfl) ?_
    refine lv_iload_n hx hb dX12_comesFrom_10 rfl (lv_at hl 2 rfl) ?_
    refine lv_iconst (v := 1) hx hb dX12_comesFrom_11 (by decide) ?_
    refine lv_iadd hx hb dX12_comesFrom_12 ?_
    have t_6 : (p_h + 1).toInt = p_h.toInt + 1 := g5_iadd (a := p_h.toInt) (b := 1) (by rfl) (by decide) (by omega) (by omega)
    have hPc := hP.sub (ws' := [(a_y, .inr (12, [.int 0, .int 0, .ref a_1, .ref a_2, .ref a_3, .ref a_4, .int 0, .ref a_5, .int 0, .int 0, .int 0, .int 0, .long 0, .int (-1), .int 0, .int 0, .ref a_6, .int 0, .ref a_7, .ref a_8, .int 0, .ref a_9, .ref a_10, .int 0, .int 0, .ref a_11, .ref a_12, .int 0, .ref a_13, .ref a_14, .int 0, .long 0, .long 0, .int e_cell, .int e_hour, .int e_way, .int e_bright, .int e_points, .ref a_15, .int e_through, .int e_seen, .ref a_16, .int 0, .ref a_17, .ref a_18, .ref a_19, .int 0, .ref a_20, .ref a_21, .long 0, .ref a_22, .int 0])), (a_19, .inl (G.2 0, 1536, .inl f_m))]) [0, 1] rfl
    have hDc := hD.sub (ws' := [(a_y, .inr (12, [.int 0, .int 0, .ref a_1, .ref a_2, .ref a_3, .ref a_4, .int 0, .ref a_5, .int 0, .int 0, .int 0, .int 0, .long 0, .int (-1), .int 0, .int 0, .ref a_6, .int 0, .ref a_7, .ref a_8, .int 0, .ref a_9, .ref a_10, .int 0, .int 0, .ref a_11, .ref a_12, .int 0, .ref a_13, .ref a_14, .int 0, .long 0, .long 0, .int e_cell, .int e_hour, .int e_way, .int e_bright, .int e_points, .ref a_15, .int e_through, .int e_seen, .ref a_16, .int 0, .ref a_17, .ref a_18, .ref a_19, .int 0, .ref a_20, .ref a_21, .long 0, .ref a_22, .int 0])), (a_19, .inl (G.2 0, 1536, .inl f_m))]) [0, 1] (by decide) rfl
    have hFc := va_free (wc := [(a_y, .inr (12, [.int 0, .int 0, .ref a_1, .ref a_2, .ref a_3, .ref a_4, .int 0, .ref a_5, .int 0, .int 0, .int 0, .int 0, .long 0, .int (-1), .int 0, .int 0, .ref a_6, .int 0, .ref a_7, .ref a_8, .int 0, .ref a_9, .ref a_10, .int 0, .int 0, .ref a_11, .ref a_12, .int 0, .ref a_13, .ref a_14, .int 0, .long 0, .long 0, .int e_cell, .int e_hour, .int e_way, .int e_bright, .int e_points, .ref a_15, .int e_through, .int e_seen, .ref a_16, .int 0, .ref a_17, .ref a_18, .ref a_19, .int 0, .ref a_20, .ref a_21, .long 0, .ref a_22, .int 0])), (a_19, .inl (G.2 0, 1536, .inl f_m))]) hD hS hA [0, 1] rfl
    refine va_calli (va_runV (As := [.int p_c, .int k_k, .int (p_h + 1)]) (rest := []) ⟨hx, hb, hml, hown, hts⟩ (k_mstep l G a_y a_19 a_1 a_2 a_3 a_4 a_5 a_6 a_7 a_8 a_9 a_10 a_11 a_12 a_13 a_14 a_15 a_16 a_17 a_18 a_20 a_21 a_22 H.size e_cell e_hour e_way e_bright e_points e_through e_seen p_c k_k (p_h + 1) f_m ⟨by omega, by omega⟩ ⟨by omega, by omega⟩ ⟨by omega, by omega⟩) (cwV 3 hts gV_X12_437 rfl rfl rfl hv_X12_step ⟨Nat.le_of_ble_eq_true rfl, Nat.le_of_ble_eq_true rfl⟩) (g5_preV hPc hK hDc hN hT hS hFc (ci := 12) (q0 := 0) rfl rfl) rfl rfl hl.1 rfl (lv_room (Nat.le_of_ble_eq_true rfl)) dX12_comesFrom_13 ⟨Nat.le_of_ble_eq_true rfl, Nat.le_of_ble_eq_true rfl⟩) hS (fun q _ h => hFc q h) hFc (fun r u t H1 locs ht hvm hw hB hz1 hk1 hS => ?_)
    obtain ⟨hP1, hD1⟩ := hB
    rw [ht] at hP1
    rcases hw with ⟨i_7, rfl, rfl⟩ | ⟨z10, i_8, i_9, y11, rfl⟩
    ·
      have i_7 : stF f_m p_c.toInt k_k.toInt (p_h + 1).toInt = -1 := i_7
      obtain ⟨hP, hD⟩ := va_join (wr := [(a_18, .inl (G.2 1, 49152, .inr (.inl k_f)))]) (w1 := [(a_y, .inr (12, [.int 0, .int 0, .ref a_1, .ref a_2, .ref a_3, .ref a_4, .int 0, .ref a_5, .int 0, .int 0, .int 0, .int 0, .long 0, .int (-1), .int 0, .int 0, .ref a_6, .int 0, .ref a_7, .ref a_8, .int 0, .ref a_9, .ref a_10, .int 0, .int 0, .ref a_11, .ref a_12, .int 0, .ref a_13, .ref a_14, .int 0, .long 0, .long 0, .int e_cell, .int e_hour, .int e_way, .int e_bright, .int e_points, .ref a_15, .int e_through, .int e_seen, .ref a_16, .int 0, .ref a_17, .ref a_18, .ref a_19, .int 0, .ref a_20, .ref a_21, .long 0, .ref a_22, .int 0])), (a_19, .inl (G.2 0, 1536, .inl f_m))]) hP hD [0, 1] [2] rfl rfl (by decide) (by decide) hk1 hFc hP1 hD1
      generalize H1 = H at hP hS ⊢
      have hP : va_P G.1 vwCl [(a_18, .inl (G.2 1, 49152, .inr (.inl k_f))), (a_y, .inr (12, [.int 0, .int 0, .ref a_1, .ref a_2, .ref a_3, .ref a_4, .int 0, .ref a_5, .int 0, .int 0, .int 0, .int 0, .long 0, .int (-1), .int 0, .int 0, .ref a_6, .int 0, .ref a_7, .ref a_8, .int 0, .ref a_9, .ref a_10, .int 0, .int 0, .ref a_11, .ref a_12, .int 0, .ref a_13, .ref a_14, .int 0, .long 0, .long 0, .int e_cell, .int e_hour, .int e_way, .int e_bright, .int e_points, .ref a_15, .int e_through, .int e_seen, .ref a_16, .int 0, .ref a_17, .ref a_18, .ref a_19, .int 0, .ref a_20, .ref a_21, .long 0, .ref a_22, .int 0])), (a_19, .inl (G.2 0, 1536, .inl f_m))] H := hP
      have hD : va_D A [(a_18, .inl (G.2 1, 49152, .inr (.inl k_f))), (a_y, .inr (12, [.int 0, .int 0, .ref a_1, .ref a_2, .ref a_3, .ref a_4, .int 0, .ref a_5, .int 0, .int 0, .int 0, .int 0, .long 0, .int (-1), .int 0, .int 0, .ref a_6, .int 0, .ref a_7, .ref a_8, .int 0, .ref a_9, .ref a_10, .int 0, .int 0, .ref a_11, .ref a_12, .int 0, .ref a_13, .ref a_14, .int 0, .long 0, .long 0, .int e_cell, .int e_hour, .int e_way, .int e_bright, .int e_points, .ref a_15, .int e_through, .int e_seen, .ref a_16, .int 0, .ref a_17, .ref a_18, .ref a_19, .int 0, .ref a_20, .ref a_21, .long 0, .ref a_22, .int 0])), (a_19, .inl (G.2 0, 1536, .inl f_m))] := hD
      refine lv_istore (lv' := [(4, .int (-1)), (3, .int k_k), (0, .ref a_y), (1, .int p_h), (2, .int p_c)]) hx hb dX12_comesFrom_16 hl (by decide) rfl (fun ls hl => ?_)
      refine lv_iconst (v := 0) hx hb dX12_comesFrom_18 (by decide) ?_
      refine lv_istore (lv' := [(5, .int 0), (4, .int (-1)), (3, .int k_k), (0, .ref a_y), (1, .int p_h), (2, .int p_c)]) hx hb dX12_comesFrom_19 hl (by decide) rfl (fun ls hl => ?_)
      refine lv_iload hx hb dX12_comesFrom_21 (lv_at hl 0 rfl) ?_
      refine lv_bipush (v := 32) hx hb dX12_comesFrom_23 (by decide) ?_
      refine lv_icmp_ge (tgt := 95) hx hb dX12_comesFrom_25 (by decide) (fun c_12 => ?_) (fun c_12 => ?_)
      ·
        exact absurd c_12 (by decide)
      ·
        refine lv_iload hx hb dX12_comesFrom_28 (lv_at hl 1 rfl) ?_
        refine lv_iconst (v := (-1)) hx hb dX12_comesFrom_30 (by decide) ?_
        refine lv_icmp_eq (tgt := 95) hx hb dX12_comesFrom_31 (by decide) (fun c_13 => ?_) (fun c_13 => ?_)
        ·
          refine lv_iinc (v := (k_k + 1)) (lv' := [(3, .int (k_k + 1)), (5, .int 0), (4, .int (-1)), (0, .ref a_y), (1, .int p_h), (2, .int p_c)]) hx hb dX12_comesFrom_95 hl (k := 2) rfl rfl (by decide) rfl (fun ls hl => ?_)
          have t_14 : (k_k + 1).toInt = k_k.toInt + 1 := g5_iadd (a := k_k.toInt) (b := 1) rfl (by decide) (by omega) (by omega)
          refine lv_goto (tgt := 2) hx hb dX12_comesFrom_98 (by decide) ?_
          exact ih_2_4 ((k_k + 1), k_f) ls H locs (show Int.toNat (5 - (k_k + 1).toInt) < Int.toNat (5 - k_k.toInt) by omega) ⟨lv_sub hl [0, 3, 4, 5] rfl, hP.sub [1, 2, 0] rfl, hD.sub [1, 2, 0] (by decide) rfl, hS, ⟨by omega, by omega⟩, g5_psA0 i_2 i_7 (by omega) (by omega) (by omega), i_3⟩
        ·
          exact absurd c_13 (by decide)
    ·
      have i_8 : z10.toInt = stF f_m p_c.toInt k_k.toInt (p_h + 1).toInt := i_8
      have i_9 : 0 ≤ z10.toInt ∧ z10.toInt ≤ 63 := i_9
      obtain ⟨hP, hD⟩ := va_join (wr := [(a_18, .inl (G.2 1, 49152, .inr (.inl k_f)))]) (w1 := [(a_y, .inr (12, [.int 0, .int 0, .ref a_1, .ref a_2, .ref a_3, .ref a_4, .int 0, .ref a_5, .int 0, .int 0, .int 0, .int 0, .long 0, .int (-1), .int 0, .int 0, .ref a_6, .int 0, .ref a_7, .ref a_8, .int 0, .ref a_9, .ref a_10, .int 0, .int 0, .ref a_11, .ref a_12, .int 0, .ref a_13, .ref a_14, .int 0, .long 0, .long 0, .int e_cell, .int e_hour, .int e_way, .int e_bright, .int e_points, .ref a_15, .int e_through, .int e_seen, .ref a_16, .int 0, .ref a_17, .ref a_18, .ref a_19, .int 0, .ref a_20, .ref a_21, .long 0, .ref a_22, .int 0])), (a_19, .inl (G.2 0, 1536, .inl f_m))]) hP hD [0, 1] [2] rfl rfl (by decide) (by decide) hk1 hFc hP1 hD1
      generalize H1 = H at hP hS ⊢
      have hP : va_P G.1 vwCl [(a_18, .inl (G.2 1, 49152, .inr (.inl k_f))), (a_y, .inr (12, [.int 0, .int 0, .ref a_1, .ref a_2, .ref a_3, .ref a_4, .int 0, .ref a_5, .int 0, .int 0, .int 0, .int 0, .long 0, .int (-1), .int 0, .int 0, .ref a_6, .int 0, .ref a_7, .ref a_8, .int 0, .ref a_9, .ref a_10, .int 0, .int 0, .ref a_11, .ref a_12, .int 0, .ref a_13, .ref a_14, .int 0, .long 0, .long 0, .int e_cell, .int e_hour, .int e_way, .int e_bright, .int e_points, .ref a_15, .int e_through, .int e_seen, .ref a_16, .int 0, .ref a_17, .ref a_18, .ref a_19, .int 0, .ref a_20, .ref a_21, .long 0, .ref a_22, .int 0])), (a_19, .inl (G.2 0, 1536, .inl f_m))] H := hP
      have hD : va_D A [(a_18, .inl (G.2 1, 49152, .inr (.inl k_f))), (a_y, .inr (12, [.int 0, .int 0, .ref a_1, .ref a_2, .ref a_3, .ref a_4, .int 0, .ref a_5, .int 0, .int 0, .int 0, .int 0, .long 0, .int (-1), .int 0, .int 0, .ref a_6, .int 0, .ref a_7, .ref a_8, .int 0, .ref a_9, .ref a_10, .int 0, .int 0, .ref a_11, .ref a_12, .int 0, .ref a_13, .ref a_14, .int 0, .long 0, .long 0, .int e_cell, .int e_hour, .int e_way, .int e_bright, .int e_points, .ref a_15, .int e_through, .int e_seen, .ref a_16, .int 0, .ref a_17, .ref a_18, .ref a_19, .int 0, .ref a_20, .ref a_21, .long 0, .ref a_22, .int 0])), (a_19, .inl (G.2 0, 1536, .inl f_m))] := hD
      refine g5_ti (v := z10) y11 ?_
      refine lv_istore (lv' := [(4, .int z10), (3, .int k_k), (0, .ref a_y), (1, .int p_h), (2, .int p_c)]) hx hb dX12_comesFrom_16 hl (by decide) rfl (fun ls hl => ?_)
      refine lv_iconst (v := 0) hx hb dX12_comesFrom_18 (by decide) ?_
      refine lv_istore (lv' := [(5, .int 0), (4, .int z10), (3, .int k_k), (0, .ref a_y), (1, .int p_h), (2, .int p_c)]) hx hb dX12_comesFrom_19 hl (by decide) rfl (fun ls hl => ?_)
      refine g5_loop (α := (Int32) × (Nat → Int64)) (fun (q : (Int32) × (Nat → Int64)) (ls : Array Slot) (H : Heap) (locs : List Loc) => match q with | (k_m, k_g) => lv_has ls 6 [(5, .int k_m), (4, .int z10), (3, .int k_k), (0, .ref a_y), (1, .int p_h), (2, .int p_c)] ∧ va_P G.1 vwCl [(a_18, .inl (G.2 1, 49152, .inr (.inl k_g))), (a_y, .inr (12, [.int 0, .int 0, .ref a_1, .ref a_2, .ref a_3, .ref a_4, .int 0, .ref a_5, .int 0, .int 0, .int 0, .int 0, .long 0, .int (-1), .int 0, .int 0, .ref a_6, .int 0, .ref a_7, .ref a_8, .int 0, .ref a_9, .ref a_10, .int 0, .int 0, .ref a_11, .ref a_12, .int 0, .ref a_13, .ref a_14, .int 0, .long 0, .long 0, .int e_cell, .int e_hour, .int e_way, .int e_bright, .int e_points, .ref a_15, .int e_through, .int e_seen, .ref a_16, .int 0, .ref a_17, .ref a_18, .ref a_19, .int 0, .ref a_20, .ref a_21, .long 0, .ref a_22, .int 0])), (a_19, .inl (G.2 0, 1536, .inl f_m))] H ∧ va_D A [(a_18, .inl (G.2 1, 49152, .inr (.inl k_g))), (a_y, .inr (12, [.int 0, .int 0, .ref a_1, .ref a_2, .ref a_3, .ref a_4, .int 0, .ref a_5, .int 0, .int 0, .int 0, .int 0, .long 0, .int (-1), .int 0, .int 0, .ref a_6, .int 0, .ref a_7, .ref a_8, .int 0, .ref a_9, .ref a_10, .int 0, .int 0, .ref a_11, .ref a_12, .int 0, .ref a_13, .ref a_14, .int 0, .long 0, .long 0, .int e_cell, .int e_hour, .int e_way, .int e_bright, .int e_points, .ref a_15, .int e_through, .int e_seen, .ref a_16, .int 0, .ref a_17, .ref a_18, .ref a_19, .int 0, .ref a_20, .ref a_21, .long 0, .ref a_22, .int 0])), (a_19, .inl (G.2 0, 1536, .inl f_m))] ∧ va_S A s.heap H locs ∧ (0 ≤ k_m.toInt ∧ k_m.toInt ≤ 32) ∧ (∀ q : Int, 0 ≤ q → q < k_m.toInt → fz k_g ((32 * (64 * p_h.toInt + p_c.toInt)) + q) = fz k_f ((32 * (64 * p_h.toInt + p_c.toInt)) + q) + fz f_d (32 * (64 * (p_h.toInt + 1) + z10.toInt) + q)) ∧ (∀ q : Int, k_m.toInt ≤ q → q < 32 → fz k_g ((32 * (64 * p_h.toInt + p_c.toInt)) + q) = fz k_f ((32 * (64 * p_h.toInt + p_c.toInt)) + q)) ∧ (∀ i : Int, 0 ≤ i → (i < (32 * (64 * p_h.toInt + p_c.toInt)) ∨ (32 * (64 * p_h.toInt + p_c.toInt)) + 32 ≤ i) → fz k_g i = fz k_f i)) (fun (q : (Int32) × (Nat → Int64)) => match q with | (k_m, k_g) => Int.toNat (32 - k_m.toInt)) (0, k_f) ⟨lv_sub hl [0, 1, 2, 3, 4, 5] rfl, hP, hD, hS, ⟨by decide, by decide⟩, fun q h1 h2 => absurd h2 (by have z : (0 : Int32).toInt = 0 := (by decide); omega), fun _ _ _ => rfl, fun _ _ _ => rfl⟩ ?_
      rintro ⟨k_m, k_g⟩ ls H locs ⟨hl, hP, hD, hS, i_15, i_16, i_17, i_18⟩ ih_21_19
      have hl : lv_has ls 6 [(5, .int k_m), (4, .int z10), (3, .int k_k), (0, .ref a_y), (1, .int p_h), (2, .int p_c)] := hl
      have i_15 : 0 ≤ k_m.toInt ∧ k_m.toInt ≤ 32 := i_15
      have i_16 : ∀ q : Int, 0 ≤ q → q < k_m.toInt → fz k_g ((32 * (64 * p_h.toInt + p_c.toInt)) + q) = fz k_f ((32 * (64 * p_h.toInt + p_c.toInt)) + q) + fz f_d (32 * (64 * (p_h.toInt + 1) + z10.toInt) + q) := i_16
      have i_17 : ∀ q : Int, k_m.toInt ≤ q → q < 32 → fz k_g ((32 * (64 * p_h.toInt + p_c.toInt)) + q) = fz k_f ((32 * (64 * p_h.toInt + p_c.toInt)) + q) := i_17
      have i_18 : ∀ i : Int, 0 ≤ i → (i < (32 * (64 * p_h.toInt + p_c.toInt)) ∨ (32 * (64 * p_h.toInt + p_c.toInt)) + 32 ≤ i) → fz k_g i = fz k_f i := i_18
      have hP : va_P G.1 vwCl [(a_18, .inl (G.2 1, 49152, .inr (.inl k_g))), (a_y, .inr (12, [.int 0, .int 0, .ref a_1, .ref a_2, .ref a_3, .ref a_4, .int 0, .ref a_5, .int 0, .int 0, .int 0, .int 0, .long 0, .int (-1), .int 0, .int 0, .ref a_6, .int 0, .ref a_7, .ref a_8, .int 0, .ref a_9, .ref a_10, .int 0, .int 0, .ref a_11, .ref a_12, .int 0, .ref a_13, .ref a_14, .int 0, .long 0, .long 0, .int e_cell, .int e_hour, .int e_way, .int e_bright, .int e_points, .ref a_15, .int e_through, .int e_seen, .ref a_16, .int 0, .ref a_17, .ref a_18, .ref a_19, .int 0, .ref a_20, .ref a_21, .long 0, .ref a_22, .int 0])), (a_19, .inl (G.2 0, 1536, .inl f_m))] H := hP
      have hD : va_D A [(a_18, .inl (G.2 1, 49152, .inr (.inl k_g))), (a_y, .inr (12, [.int 0, .int 0, .ref a_1, .ref a_2, .ref a_3, .ref a_4, .int 0, .ref a_5, .int 0, .int 0, .int 0, .int 0, .long 0, .int (-1), .int 0, .int 0, .ref a_6, .int 0, .ref a_7, .ref a_8, .int 0, .ref a_9, .ref a_10, .int 0, .int 0, .ref a_11, .ref a_12, .int 0, .ref a_13, .ref a_14, .int 0, .long 0, .long 0, .int e_cell, .int e_hour, .int e_way, .int e_bright, .int e_points, .ref a_15, .int e_through, .int e_seen, .ref a_16, .int 0, .ref a_17, .ref a_18, .ref a_19, .int 0, .ref a_20, .ref a_21, .long 0, .ref a_22, .int 0])), (a_19, .inl (G.2 0, 1536, .inl f_m))] := hD
      refine lv_iload hx hb dX12_comesFrom_21 (lv_at hl 0 rfl) ?_
      refine lv_bipush (v := 32) hx hb dX12_comesFrom_23 (by decide) ?_
      refine lv_icmp_ge (tgt := 95) hx hb dX12_comesFrom_25 (by decide) (fun c_20 => ?_) (fun c_20 => ?_)
      ·
        have i_20 : k_m.toInt ≥ 32 := by have z := g5_ge (a := k_m.toInt) (b := 32) (by rfl) (by decide) c_20; omega
        refine lv_iinc (v := (k_k + 1)) (lv' := [(3, .int (k_k + 1)), (5, .int k_m), (4, .int z10), (0, .ref a_y), (1, .int p_h), (2, .int p_c)]) hx hb dX12_comesFrom_95 hl (k := 2) rfl rfl (by decide) rfl (fun ls hl => ?_)
        have t_21 : (k_k + 1).toInt = k_k.toInt + 1 := g5_iadd (a := k_k.toInt) (b := 1) rfl (by decide) (by omega) (by omega)
        refine lv_goto (tgt := 2) hx hb dX12_comesFrom_98 (by decide) ?_
        exact ih_2_4 ((k_k + 1), k_g) ls H locs (show Int.toNat (5 - (k_k + 1).toInt) < Int.toNat (5 - k_k.toInt) by omega) ⟨lv_sub hl [0, 3, 4, 5] rfl, hP.sub [1, 2, 0] rfl, hD.sub [1, 2, 0] (by decide) rfl, hS, ⟨by omega, by omega⟩, g5_psA1 i_2 i_16 i_8 (by omega) (by omega) (by omega) (by omega) (by omega), fun i h1 h2 => (i_18 i h1 h2).trans (i_3 i h1 h2)⟩
      ·
        have i_20 : k_m.toInt < 32 := by have z := g5_geN (a := k_m.toInt) (b := 32) (by rfl) (by decide) c_20; omega
        refine lv_iload hx hb dX12_comesFrom_28 (lv_at hl 1 rfl) ?_
        refine lv_iconst (v := (-1)) hx hb dX12_comesFrom_30 (by decide) ?_
        refine lv_icmp_eq (tgt := 95) hx hb dX12_comesFrom_31 (by decide) (fun c_22 => ?_) (fun c_22 => ?_)
        ·
          have i_22 : z10.toInt = (-1) := by have z := g5_eq (a := z10.toInt) (b := (-1)) (by rfl) (by decide) c_22; omega
          omega
        ·
          have i_22 : z10.toInt ≠ (-1) := by have z := g5_eqN (a := z10.toInt) (b := (-1)) (by rfl) (by decide) c_22; omega
          refine lv_aload_n hx hb dX12_comesFrom_34 rfl (lv_at hl 3 rfl) ?_
          refine va_get (D := G.1) (ci := 12) (v := .ref a_18) (C := RX12) (T := TX12) (N := 52) hx hb hts inG_X12 hown hK hP 1 rfl rfl 44 (by decide) (hts _ fl_X12_92) (fun _ h9 => h9) rfl dX12_comesFrom_35 ?_
          refine lv_bipush (v := 32) hx hb dX12_comesFrom_38 (by decide) ?_
          refine lv_bipush (v := 64) hx hb dX12_comesFrom_40 (by decide) ?_
          refine lv_iload_n hx hb dX12_comesFrom_42 rfl (lv_at hl 4 rfl) ?_
          refine lv_imul hx hb dX12_comesFrom_43 ?_
          have t_23 : (64 * p_h).toInt = 64 * p_h.toInt := g5_imul (a := 64) (b := p_h.toInt) (by decide) (by rfl) (by omega) (by omega)
          refine lv_iload_n hx hb dX12_comesFrom_44 rfl (lv_at hl 5 rfl) ?_
          refine lv_iadd hx hb dX12_comesFrom_45 ?_
          have t_24 : ((64 * p_h) + p_c).toInt = (64 * p_h).toInt + p_c.toInt := g5_iadd (a := (64 * p_h).toInt) (b := p_c.toInt) (by rfl) (by rfl) (by omega) (by omega)
          refine lv_imul hx hb dX12_comesFrom_46 ?_
          have t_25 : (32 * ((64 * p_h) + p_c)).toInt = 32 * ((64 * p_h) + p_c).toInt := g5_imul (a := 32) (b := ((64 * p_h) + p_c).toInt) (by decide) (by rfl) (by omega) (by omega)
          refine lv_iload hx hb dX12_comesFrom_47 (lv_at hl 0 rfl) ?_
          refine lv_iadd hx hb dX12_comesFrom_49 ?_
          have t_26 : ((32 * ((64 * p_h) + p_c)) + k_m).toInt = (32 * ((64 * p_h) + p_c)).toInt + k_m.toInt := g5_iadd (a := (32 * ((64 * p_h) + p_c)).toInt) (b := k_m.toInt) (by rfl) (by rfl) (by omega) (by omega)
          refine lv_dup2_11 hx hb dX12_comesFrom_50 rfl rfl ?_
          refine va_lald hx hb hK hP 0 1 rfl rfl (i := ((32 * ((64 * p_h) + p_c)) + k_m)) (vp_in_iff.mpr ⟨by omega, by omega⟩) dX12_comesFrom_51 ?_
          refine lv_aload_n hx hb dX12_comesFrom_52 rfl (lv_at hl 3 rfl) ?_
          refine va_get (D := G.1) (ci := 12) (v := .ref a_18) (C := RX12) (T := TX12) (N := 52) hx hb hts inG_X12 hown hK hP 1 rfl rfl 44 (by decide) (hts _ fl_X12_92) (fun _ h9 => h9) rfl dX12_comesFrom_53 ?_
          refine lv_bipush (v := 32) hx hb dX12_comesFrom_56 (by decide) ?_
          refine lv_bipush (v := 64) hx hb dX12_comesFrom_58 (by decide) ?_
          refine lv_iload_n hx hb dX12_comesFrom_60 rfl (lv_at hl 4 rfl) ?_
          refine lv_iconst (v := 1) hx hb dX12_comesFrom_61 (by decide) ?_
          refine lv_iadd hx hb dX12_comesFrom_62 ?_
          have t_27 : (p_h + 1).toInt = p_h.toInt + 1 := g5_iadd (a := p_h.toInt) (b := 1) (by rfl) (by decide) (by omega) (by omega)
          refine lv_imul hx hb dX12_comesFrom_63 ?_
          have t_28 : (64 * (p_h + 1)).toInt = 64 * (p_h + 1).toInt := g5_imul (a := 64) (b := (p_h + 1).toInt) (by decide) (by rfl) (by omega) (by omega)
          refine lv_iload hx hb dX12_comesFrom_64 (lv_at hl 1 rfl) ?_
          refine lv_iadd hx hb dX12_comesFrom_66 ?_
          have t_29 : ((64 * (p_h + 1)) + z10).toInt = (64 * (p_h + 1)).toInt + z10.toInt := g5_iadd (a := (64 * (p_h + 1)).toInt) (b := z10.toInt) (by rfl) (by rfl) (by omega) (by omega)
          refine lv_imul hx hb dX12_comesFrom_67 ?_
          have t_30 : (32 * ((64 * (p_h + 1)) + z10)).toInt = 32 * ((64 * (p_h + 1)) + z10).toInt := g5_imul (a := 32) (b := ((64 * (p_h + 1)) + z10).toInt) (by decide) (by rfl) (by omega) (by omega)
          refine lv_iload hx hb dX12_comesFrom_68 (lv_at hl 0 rfl) ?_
          refine lv_aload_n hx hb dX12_comesFrom_70 rfl (lv_at hl 3 rfl) ?_
          refine va_get (D := G.1) (ci := 12) (v := .ref a_19) (C := RX12) (T := TX12) (N := 52) hx hb hts inG_X12 hown hK hP 1 rfl rfl 45 (by decide) (hts _ fl_X12_95) (fun _ h9 => h9) rfl dX12_comesFrom_71 ?_
          refine lv_bipush (v := 64) hx hb dX12_comesFrom_74 (by decide) ?_
          refine lv_iload_n hx hb dX12_comesFrom_76 rfl (lv_at hl 4 rfl) ?_
          refine lv_iconst (v := 1) hx hb dX12_comesFrom_77 (by decide) ?_
          refine lv_iadd hx hb dX12_comesFrom_78 ?_
          have t_31 : (p_h + 1).toInt = p_h.toInt + 1 := g5_iadd (a := p_h.toInt) (b := 1) (by rfl) (by decide) (by omega) (by omega)
          refine lv_imul hx hb dX12_comesFrom_79 ?_
          have t_32 : (64 * (p_h + 1)).toInt = 64 * (p_h + 1).toInt := g5_imul (a := 64) (b := (p_h + 1).toInt) (by decide) (by rfl) (by omega) (by omega)
          refine lv_iload hx hb dX12_comesFrom_80 (lv_at hl 1 rfl) ?_
          refine lv_iadd hx hb dX12_comesFrom_82 ?_
          have t_33 : ((64 * (p_h + 1)) + z10).toInt = (64 * (p_h + 1)).toInt + z10.toInt := g5_iadd (a := (64 * (p_h + 1)).toInt) (b := z10.toInt) (by rfl) (by rfl) (by omega) (by omega)
          refine va_iald hx hb hK hP 2 0 rfl rfl (i := ((64 * (p_h + 1)) + z10)) (vp_in_iff.mpr ⟨by omega, by omega⟩) dX12_comesFrom_83 ?_
          refine g5_ti (v := 0) (g5_stM e_m i_8 (by have z := g5_clamp ((64 * (p_h + 1)) + z10); omega) (by omega)) ?_
          refine lv_ior hx hb dX12_comesFrom_84 ?_
          refine g5_ti (v := k_m) (by simp) ?_
          refine lv_iadd hx hb dX12_comesFrom_85 ?_
          have t_34 : ((32 * ((64 * (p_h + 1)) + z10)) + k_m).toInt = (32 * ((64 * (p_h + 1)) + z10)).toInt + k_m.toInt := g5_iadd (a := (32 * ((64 * (p_h + 1)) + z10)).toInt) (b := k_m.toInt) (by rfl) (by rfl) (by omega) (by omega)
          refine va_lald hx hb hK hP 0 1 rfl rfl (i := ((32 * ((64 * (p_h + 1)) + z10)) + k_m)) (vp_in_iff.mpr ⟨by omega, by omega⟩) dX12_comesFrom_86 ?_
          refine lv_ladd hx hb dX12_comesFrom_87 ?_
          refine va_last hx hb hK hP hD hS 0 1 rfl rfl (i := ((32 * ((64 * p_h) + p_c)) + k_m)) (x := ((k_g ((32 * ((64 * p_h) + p_c)) + k_m).toNatClampNeg) + (k_g ((32 * ((64 * (p_h + 1)) + z10)) + k_m).toNatClampNeg))) (vp_in_iff.mpr ⟨by omega, by omega⟩) dX12_comesFrom_88 (fun H locs hP hD hS => ?_)
          have hP : va_P G.1 vwCl [(a_18, .inl (G.2 1, 49152, .inr (.inl (vp_updL k_g ((32 * ((64 * p_h) + p_c)) + k_m).toNatClampNeg ((k_g ((32 * ((64 * p_h) + p_c)) + k_m).toNatClampNeg) + (k_g ((32 * ((64 * (p_h + 1)) + z10)) + k_m).toNatClampNeg)))))), (a_y, .inr (12, [.int 0, .int 0, .ref a_1, .ref a_2, .ref a_3, .ref a_4, .int 0, .ref a_5, .int 0, .int 0, .int 0, .int 0, .long 0, .int (-1), .int 0, .int 0, .ref a_6, .int 0, .ref a_7, .ref a_8, .int 0, .ref a_9, .ref a_10, .int 0, .int 0, .ref a_11, .ref a_12, .int 0, .ref a_13, .ref a_14, .int 0, .long 0, .long 0, .int e_cell, .int e_hour, .int e_way, .int e_bright, .int e_points, .ref a_15, .int e_through, .int e_seen, .ref a_16, .int 0, .ref a_17, .ref a_18, .ref a_19, .int 0, .ref a_20, .ref a_21, .long 0, .ref a_22, .int 0])), (a_19, .inl (G.2 0, 1536, .inl f_m))] H := hP
          have hD : va_D A [(a_18, .inl (G.2 1, 49152, .inr (.inl (vp_updL k_g ((32 * ((64 * p_h) + p_c)) + k_m).toNatClampNeg ((k_g ((32 * ((64 * p_h) + p_c)) + k_m).toNatClampNeg) + (k_g ((32 * ((64 * (p_h + 1)) + z10)) + k_m).toNatClampNeg)))))), (a_y, .inr (12, [.int 0, .int 0, .ref a_1, .ref a_2, .ref a_3, .ref a_4, .int 0, .ref a_5, .int 0, .int 0, .int 0, .int 0, .long 0, .int (-1), .int 0, .int 0, .ref a_6, .int 0, .ref a_7, .ref a_8, .int 0, .ref a_9, .ref a_10, .int 0, .int 0, .ref a_11, .ref a_12, .int 0, .ref a_13, .ref a_14, .int 0, .long 0, .long 0, .int e_cell, .int e_hour, .int e_way, .int e_bright, .int e_points, .ref a_15, .int e_through, .int e_seen, .ref a_16, .int 0, .ref a_17, .ref a_18, .ref a_19, .int 0, .ref a_20, .ref a_21, .long 0, .ref a_22, .int 0])), (a_19, .inl (G.2 0, 1536, .inl f_m))] := hD
          refine lv_iinc (v := (k_m + 1)) (lv' := [(5, .int (k_m + 1)), (4, .int z10), (3, .int k_k), (0, .ref a_y), (1, .int p_h), (2, .int p_c)]) hx hb dX12_comesFrom_89 hl (k := 0) rfl rfl (by decide) rfl (fun ls hl => ?_)
          have t_35 : (k_m + 1).toInt = k_m.toInt + 1 := g5_iadd (a := k_m.toInt) (b := 1) rfl (by decide) (by omega) (by omega)
          refine lv_goto (tgt := 21) hx hb dX12_comesFrom_92 (by decide) ?_
          exact ih_21_19 ((k_m + 1), (vp_updL k_g ((32 * ((64 * p_h) + p_c)) + k_m).toNatClampNeg ((k_g ((32 * ((64 * p_h) + p_c)) + k_m).toNatClampNeg) + (k_g ((32 * ((64 * (p_h + 1)) + z10)) + k_m).toNatClampNeg)))) ls H locs (show Int.toNat (32 - (k_m + 1).toInt) < Int.toNat (32 - k_m.toInt) by omega) ⟨lv_sub hl [0, 1, 2, 3, 4, 5] rfl, hP, hD, hS, ⟨by omega, by omega⟩, g5_blk1 (x := ((32 * ((64 * p_h) + p_c)) + k_m)) (y := ((32 * ((64 * (p_h + 1)) + z10)) + k_m)) i_16 i_17 i_18 i_3 (by omega) (by omega) (by omega) (by omega) (by omega) (by omega) (by omega), g5_blk2 (x := ((32 * ((64 * p_h) + p_c)) + k_m)) i_17 (by omega) (by omega) (by omega), g5_blk3 (m := k_m) (x := ((32 * ((64 * p_h) + p_c)) + k_m)) i_18 (by omega) (by omega) (by omega)⟩
theorem dX12_goesOn_0 : decode cX12_goesOn 0 = .ok (.iconst 0, 1) := by decide +kernel
theorem dX12_goesOn_1 : decode cX12_goesOn 1 = .ok (.istore_n 3, 1) := by decide +kernel
theorem dX12_goesOn_2 : decode cX12_goesOn 2 = .ok (.iload_n 3, 1) := by decide +kernel
theorem dX12_goesOn_3 : decode cX12_goesOn 3 = .ok (.iconst 5, 1) := by decide +kernel
theorem dX12_goesOn_4 : decode cX12_goesOn 4 = .ok (.if_icmp .ge 97, 3) := by decide +kernel
theorem dX12_goesOn_7 : decode cX12_goesOn 7 = .ok (.aload_n 0, 1) := by decide +kernel
theorem dX12_goesOn_8 : decode cX12_goesOn 8 = .ok (.iload_n 2, 1) := by decide +kernel
theorem dX12_goesOn_9 : decode cX12_goesOn 9 = .ok (.iload_n 3, 1) := by decide +kernel
theorem dX12_goesOn_10 : decode cX12_goesOn 10 = .ok (.iload_n 1, 1) := by decide +kernel
theorem dX12_goesOn_11 : decode cX12_goesOn 11 = .ok (.iconst 1, 1) := by decide +kernel
theorem dX12_goesOn_12 : decode cX12_goesOn 12 = .ok (.iadd, 1) := by decide +kernel
theorem dX12_goesOn_13 : decode cX12_goesOn 13 = .ok (.invokevirtual 437, 3) := by decide +kernel
theorem dX12_goesOn_16 : decode cX12_goesOn 16 = .ok (.istore 4, 2) := by decide +kernel
theorem dX12_goesOn_18 : decode cX12_goesOn 18 = .ok (.iconst 0, 1) := by decide +kernel
theorem dX12_goesOn_19 : decode cX12_goesOn 19 = .ok (.istore 5, 2) := by decide +kernel
theorem dX12_goesOn_21 : decode cX12_goesOn 21 = .ok (.iload 5, 2) := by decide +kernel
theorem dX12_goesOn_23 : decode cX12_goesOn 23 = .ok (.bipush 32, 2) := by decide +kernel
theorem dX12_goesOn_25 : decode cX12_goesOn 25 = .ok (.if_icmp .ge 70, 3) := by decide +kernel
theorem dX12_goesOn_28 : decode cX12_goesOn 28 = .ok (.iload 4, 2) := by decide +kernel
theorem dX12_goesOn_30 : decode cX12_goesOn 30 = .ok (.iconst (-1), 1) := by decide +kernel
theorem dX12_goesOn_31 : decode cX12_goesOn 31 = .ok (.if_icmp .eq 64, 3) := by decide +kernel
theorem dX12_goesOn_34 : decode cX12_goesOn 34 = .ok (.aload_n 0, 1) := by decide +kernel
theorem dX12_goesOn_35 : decode cX12_goesOn 35 = .ok (.getfield 89, 3) := by decide +kernel
theorem dX12_goesOn_38 : decode cX12_goesOn 38 = .ok (.bipush 32, 2) := by decide +kernel
theorem dX12_goesOn_40 : decode cX12_goesOn 40 = .ok (.bipush 64, 2) := by decide +kernel
theorem dX12_goesOn_42 : decode cX12_goesOn 42 = .ok (.iload_n 1, 1) := by decide +kernel
theorem dX12_goesOn_43 : decode cX12_goesOn 43 = .ok (.iconst 1, 1) := by decide +kernel
theorem dX12_goesOn_44 : decode cX12_goesOn 44 = .ok (.iadd, 1) := by decide +kernel
theorem dX12_goesOn_45 : decode cX12_goesOn 45 = .ok (.imul, 1) := by decide +kernel
theorem dX12_goesOn_46 : decode cX12_goesOn 46 = .ok (.iload 4, 2) := by decide +kernel
theorem dX12_goesOn_48 : decode cX12_goesOn 48 = .ok (.iadd, 1) := by decide +kernel
theorem dX12_goesOn_49 : decode cX12_goesOn 49 = .ok (.imul, 1) := by decide +kernel
theorem dX12_goesOn_50 : decode cX12_goesOn 50 = .ok (.iload 5, 2) := by decide +kernel
theorem dX12_goesOn_52 : decode cX12_goesOn 52 = .ok (.aload_n 0, 1) := by decide +kernel
theorem dX12_goesOn_53 : decode cX12_goesOn 53 = .ok (.getfield 95, 3) := by decide +kernel
theorem dX12_goesOn_56 : decode cX12_goesOn 56 = .ok (.bipush 64, 2) := by decide +kernel
theorem dX12_goesOn_58 : decode cX12_goesOn 58 = .ok (.iload_n 1, 1) := by decide +kernel
theorem dX12_goesOn_59 : decode cX12_goesOn 59 = .ok (.iconst 1, 1) := by decide +kernel
theorem dX12_goesOn_60 : decode cX12_goesOn 60 = .ok (.iadd, 1) := by decide +kernel
theorem dX12_goesOn_61 : decode cX12_goesOn 61 = .ok (.imul, 1) := by decide +kernel
theorem dX12_goesOn_62 : decode cX12_goesOn 62 = .ok (.iload 4, 2) := by decide +kernel
theorem dX12_goesOn_64 : decode cX12_goesOn 64 = .ok (.iadd, 1) := by decide +kernel
theorem dX12_goesOn_65 : decode cX12_goesOn 65 = .ok (.iaload, 1) := by decide +kernel
theorem dX12_goesOn_66 : decode cX12_goesOn 66 = .ok (.ior, 1) := by decide +kernel
theorem dX12_goesOn_67 : decode cX12_goesOn 67 = .ok (.iadd, 1) := by decide +kernel
theorem dX12_goesOn_68 : decode cX12_goesOn 68 = .ok (.dup2, 1) := by decide +kernel
theorem dX12_goesOn_69 : decode cX12_goesOn 69 = .ok (.laload, 1) := by decide +kernel
theorem dX12_goesOn_70 : decode cX12_goesOn 70 = .ok (.aload_n 0, 1) := by decide +kernel
theorem dX12_goesOn_71 : decode cX12_goesOn 71 = .ok (.getfield 89, 3) := by decide +kernel
theorem dX12_goesOn_74 : decode cX12_goesOn 74 = .ok (.bipush 32, 2) := by decide +kernel
theorem dX12_goesOn_76 : decode cX12_goesOn 76 = .ok (.bipush 64, 2) := by decide +kernel
theorem dX12_goesOn_78 : decode cX12_goesOn 78 = .ok (.iload_n 1, 1) := by decide +kernel
theorem dX12_goesOn_79 : decode cX12_goesOn 79 = .ok (.imul, 1) := by decide +kernel
theorem dX12_goesOn_80 : decode cX12_goesOn 80 = .ok (.iload_n 2, 1) := by decide +kernel
theorem dX12_goesOn_81 : decode cX12_goesOn 81 = .ok (.iadd, 1) := by decide +kernel
theorem dX12_goesOn_82 : decode cX12_goesOn 82 = .ok (.imul, 1) := by decide +kernel
theorem dX12_goesOn_83 : decode cX12_goesOn 83 = .ok (.iload 5, 2) := by decide +kernel
theorem dX12_goesOn_85 : decode cX12_goesOn 85 = .ok (.iadd, 1) := by decide +kernel
theorem dX12_goesOn_86 : decode cX12_goesOn 86 = .ok (.laload, 1) := by decide +kernel
theorem dX12_goesOn_87 : decode cX12_goesOn 87 = .ok (.ladd, 1) := by decide +kernel
theorem dX12_goesOn_88 : decode cX12_goesOn 88 = .ok (.lastore, 1) := by decide +kernel
theorem dX12_goesOn_89 : decode cX12_goesOn 89 = .ok (.iinc 5 1, 3) := by decide +kernel
theorem dX12_goesOn_92 : decode cX12_goesOn 92 = .ok (.goto (-71), 3) := by decide +kernel
theorem dX12_goesOn_95 : decode cX12_goesOn 95 = .ok (.iinc 3 1, 3) := by decide +kernel
theorem dX12_goesOn_98 : decode cX12_goesOn 98 = .ok (.goto (-96), 3) := by decide +kernel
theorem dX12_goesOn_101 : decode cX12_goesOn 101 = .ok (.return_, 1) := by decide +kernel
