theorem dX12_soonest_0 : decode cX12_soonest 0 = .ok (.aload_n 0, 1) := by decide +kernel
theorem dX12_soonest_1 : decode cX12_soonest 1 = .ok (.iconst 0, 1) := by decide +kernel
theorem dX12_soonest_2 : decode cX12_soonest 2 = .ok (.putfield 107, 3) := by decide +kernel
theorem dX12_soonest_5 : decode cX12_soonest 5 = .ok (.aload_n 0, 1) := by decide +kernel
theorem dX12_soonest_6 : decode cX12_soonest 6 = .ok (.iload_n 1, 1) := by decide +kernel
theorem dX12_soonest_7 : decode cX12_soonest 7 = .ok (.invokevirtual 180, 3) := by decide +kernel
theorem dX12_soonest_10 : decode cX12_soonest 10 = .ok (.ifCond .eq 27, 3) := by decide +kernel
theorem dX12_soonest_13 : decode cX12_soonest 13 = .ok (.iload_n 2, 1) := by decide +kernel
theorem dX12_soonest_14 : decode cX12_soonest 14 = .ok (.invokestatic 138, 3) := by decide +kernel
theorem dX12_soonest_17 : decode cX12_soonest 17 = .ok (.ifCond .eq 20, 3) := by decide +kernel
theorem dX12_soonest_20 : decode cX12_soonest 20 = .ok (.iload_n 3, 1) := by decide +kernel
theorem dX12_soonest_21 : decode cX12_soonest 21 = .ok (.invokestatic 175, 3) := by decide +kernel
theorem dX12_soonest_24 : decode cX12_soonest 24 = .ok (.ifCond .eq 13, 3) := by decide +kernel
theorem dX12_soonest_27 : decode cX12_soonest 27 = .ok (.aload_n 0, 1) := by decide +kernel
theorem dX12_soonest_28 : decode cX12_soonest 28 = .ok (.iload_n 1, 1) := by decide +kernel
theorem dX12_soonest_29 : decode cX12_soonest 29 = .ok (.iload_n 2, 1) := by decide +kernel
theorem dX12_soonest_30 : decode cX12_soonest 30 = .ok (.iload_n 3, 1) := by decide +kernel
theorem dX12_soonest_31 : decode cX12_soonest 31 = .ok (.invokevirtual 466, 3) := by decide +kernel
theorem dX12_soonest_34 : decode cX12_soonest 34 = .ok (.goto 4, 3) := by decide +kernel
theorem dX12_soonest_37 : decode cX12_soonest 37 = .ok (.iconst (-1), 1) := by decide +kernel
theorem dX12_soonest_38 : decode cX12_soonest 38 = .ok (.ireturn, 1) := by decide +kernel
set_option maxHeartbeats 4000000 in
set_option maxRecDepth 100000 in
theorem kX12_soonest (l : Launch) (G : g5_G) (a0 a1 a2 a3 a4 a5 a6 a7 a8 a9 a10 a11 a12 a13 a14 a15 a16 a17 a18 a19 a20 a21 a22 : Nat) (sz : Nat) (n0 : Int32) (n1 : Int32) (n2 : Int32) : Met l yX12_soonest (wsG yX12_soonest cX12_soonest 4 (some .int)) ({ frames := 2, cells := 0, slots := 0, locals := 46 }) (va_Pc [.ref a0, .int n0, .int n1, .int n2] (g5_P G [(a0, .inr (12, [.int 0, .int 0, .ref a1, .ref a2, .ref a3, .ref a4, .int 0, .ref a5, .int 0, .int 0, .int 0, .int 0, .long 0, .int (-1), .int 0, .int 0, .ref a6, .int 0, .ref a7, .ref a8, .int 0, .ref a9, .ref a10, .int 0, .int 0, .ref a11, .ref a12, .int 0, .ref a13, .ref a14, .int 0, .long 0, .long 0, .int 0, .int 0, .int 0, .int 0, .int 0, .ref a15, .int 0, .int 0, .ref a16, .int 0, .ref a17, .ref a18, .ref a19, .int 0, .ref a20, .ref a21, .long 0, .ref a22, .int 0])), (a2, .inl (G.2 0, 5740, .inl (upd (upd (upd (fun _ => 0) 3 (-1)) 4 1000) 6 (-1))))] sz)) (va_Qi (fun (r : Int32) (u : va_W) => ((n0.toInt < 0 ∨ (-1) < n0.toInt) ∧ (r = (-1)) ∧ (u = []))) (g5_B G (va_A [(a0, .inr (12, [.int 0, .int 0, .ref a1, .ref a2, .ref a3, .ref a4, .int 0, .ref a5, .int 0, .int 0, .int 0, .int 0, .long 0, .int (-1), .int 0, .int 0, .ref a6, .int 0, .ref a7, .ref a8, .int 0, .ref a9, .ref a10, .int 0, .int 0, .ref a11, .ref a12, .int 0, .ref a13, .ref a14, .int 0, .long 0, .long 0, .int 0, .int 0, .int 0, .int 0, .int 0, .ref a15, .int 0, .int 0, .ref a16, .int 0, .ref a17, .ref a18, .ref a19, .int 0, .ref a20, .ref a21, .long 0, .ref a22, .int 0])), (a2, .inl (G.2 0, 5740, .inl (upd (upd (upd (fun _ => 0) 3 (-1)) 4 1000) 6 (-1))))] sz)) (va_A [(a0, .inr (12, [.int 0, .int 0, .ref a1, .ref a2, .ref a3, .ref a4, .int 0, .ref a5, .int 0, .int 0, .int 0, .int 0, .long 0, .int (-1), .int 0, .int 0, .ref a6, .int 0, .ref a7, .ref a8, .int 0, .ref a9, .ref a10, .int 0, .int 0, .ref a11, .ref a12, .int 0, .ref a13, .ref a14, .int 0, .long 0, .long 0, .int 0, .int 0, .int 0, .int 0, .int 0, .ref a15, .int 0, .int 0, .ref a16, .int 0, .ref a17, .ref a18, .ref a19, .int 0, .ref a20, .ref a21, .long 0, .ref a22, .int 0])), (a2, .inl (G.2 0, 5740, .inl (upd (upd (upd (fun _ => 0) 3 (-1)) 4 1000) 6 (-1))))] sz)) 0 0 (va_A [(a0, .inr (12, [.int 0, .int 0, .ref a1, .ref a2, .ref a3, .ref a4, .int 0, .ref a5, .int 0, .int 0, .int 0, .int 0, .long 0, .int (-1), .int 0, .int 0, .ref a6, .int 0, .ref a7, .ref a8, .int 0, .ref a9, .ref a10, .int 0, .int 0, .ref a11, .ref a12, .int 0, .ref a13, .ref a14, .int 0, .long 0, .long 0, .int 0, .int 0, .int 0, .int 0, .int 0, .ref a15, .int 0, .int 0, .ref a16, .int 0, .ref a17, .ref a18, .ref a19, .int 0, .ref a20, .ref a21, .long 0, .ref a22, .int 0])), (a2, .inl (G.2 0, 5740, .inl (upd (upd (upd (fun _ => 0) 3 (-1)) 4 1000) 6 (-1))))] sz) := by
  refine Met.ofW (cc := cX12_soonest) (maxL := 4) (ret := (some .int)) (by decide) rfl ?_
  intro p e s m args below meth c s₁ B hml hv
  obtain ⟨rfl, hsz, hP, hK, hD0, hN, hT⟩ := hv
  have hx := B.exec
  have hb := B.bytes
  have hr := B.returns
  have hts : ∀ w ∈ tblG, w.before _ s = true := fun w h => atoms_spec (ws := (wsG yX12_soonest cX12_soonest 4 (some .int))) B.pre w (List.mem_cons_of_mem _ h)
  have hown : s.vm.findClass RX12 = some m.cls := findClass_of_methodNamed B.named
  have hlocks := B.notSynchronized
  subst hsz
  have hD := hD0.self (sz := s.heap.size)
  generalize hAe : va_A [(a0, .inr (12, [.int 0, .int 0, .ref a1, .ref a2, .ref a3, .ref a4, .int 0, .ref a5, .int 0, .int 0, .int 0, .int 0, .long 0, .int (-1), .int 0, .int 0, .ref a6, .int 0, .ref a7, .ref a8, .int 0, .ref a9, .ref a10, .int 0, .int 0, .ref a11, .ref a12, .int 0, .ref a13, .ref a14, .int 0, .long 0, .long 0, .int 0, .int 0, .int 0, .int 0, .int 0, .ref a15, .int 0, .int 0, .ref a16, .int 0, .ref a17, .ref a18, .ref a19, .int 0, .ref a20, .ref a21, .long 0, .ref a22, .int 0])), (a2, .inl (G.2 0, 5740, .inl (upd (upd (upd (fun _ => 0) 3 (-1)) 4 1000) 6 (-1))))] s.heap.size = A at hD hT ⊢
  have hA : ∀ q : Nat, s.heap.size ≤ q → A q := fun q h => by rw [← hAe]; exact Or.inr h
  have hS : va_S A s.heap s.heap [] := va_S.rf
  have hP : va_P G.1 vwCl [(a0, .inr (12, [.int 0, .int 0, .ref a1, .ref a2, .ref a3, .ref a4, .int 0, .ref a5, .int 0, .int 0, .int 0, .int 0, .long 0, .int (-1), .int 0, .int 0, .ref a6, .int 0, .ref a7, .ref a8, .int 0, .ref a9, .ref a10, .int 0, .int 0, .ref a11, .ref a12, .int 0, .ref a13, .ref a14, .int 0, .long 0, .long 0, .int 0, .int 0, .int 0, .int 0, .int 0, .ref a15, .int 0, .int 0, .ref a16, .int 0, .ref a17, .ref a18, .ref a19, .int 0, .ref a20, .ref a21, .long 0, .ref a22, .int 0])), (a2, .inl (G.2 0, 5740, .inl (upd (upd (upd (fun _ => 0) 3 (-1)) 4 1000) 6 (-1))))] s.heap := hP
  have hl := lv_entry ([.ref a0, .int n0, .int n1, .int n2]) (n := 4) (Nat.le_of_ble_eq_true rfl)
  rw [lg_entry_eq]
  generalize (lg_sl ([.ref a0, .int n0, .int n1, .int n2]) ++ List.replicate (4 - (lg_sl ([.ref a0, .int n0, .int n1, .int n2])).length) Slot.unset).toArray = ls at hl ⊢
  have hl : lv_has ls 4 [(0, .ref a0), (1, .int n0), (2, .int n1), (3, .int n2)] := hl
  refine lv_aload_n hx hb dX12_soonest_0 rfl (lv_at hl 0 rfl) ?_
  refine lv_iconst (v := 0) hx hb dX12_soonest_1 (by decide) ?_
  refine va_put (D := G.1) (ci := 12) (v := .int 0) (ty := .int) (C := RX12) (T := TX12) (N := 52) hx hb hts inG_X12 tyX12 tyX12_ok nmX12 hown hK hP hD hS 0 rfl rfl 0 (by decide) (hts _ fl_X12_107) (fun _ h9 => h9) rfl (by decide +kernel) rfl rfl (Nat.le_of_ble_eq_true rfl) dX12_soonest_2 (fun H locs hP hD hS => ?_)
  have hP : va_P G.1 vwCl [(a0, .inr (12, [.int 0, .int 0, .ref a1, .ref a2, .ref a3, .ref a4, .int 0, .ref a5, .int 0, .int 0, .int 0, .int 0, .long 0, .int (-1), .int 0, .int 0, .ref a6, .int 0, .ref a7, .ref a8, .int 0, .ref a9, .ref a10, .int 0, .int 0, .ref a11, .ref a12, .int 0, .ref a13, .ref a14, .int 0, .long 0, .long 0, .int 0, .int 0, .int 0, .int 0, .int 0, .ref a15, .int 0, .int 0, .ref a16, .int 0, .ref a17, .ref a18, .ref a19, .int 0, .ref a20, .ref a21, .long 0, .ref a22, .int 0])), (a2, .inl (G.2 0, 5740, .inl (upd (upd (upd (fun _ => 0) 3 (-1)) 4 1000) 6 (-1))))] H := hP
  have hD : va_D A [(a0, .inr (12, [.int 0, .int 0, .ref a1, .ref a2, .ref a3, .ref a4, .int 0, .ref a5, .int 0, .int 0, .int 0, .int 0, .long 0, .int (-1), .int 0, .int 0, .ref a6, .int 0, .ref a7, .ref a8, .int 0, .ref a9, .ref a10, .int 0, .int 0, .ref a11, .ref a12, .int 0, .ref a13, .ref a14, .int 0, .long 0, .long 0, .int 0, .int 0, .int 0, .int 0, .int 0, .ref a15, .int 0, .int 0, .ref a16, .int 0, .ref a17, .ref a18, .ref a19, .int 0, .ref a20, .ref a21, .long 0, .ref a22, .int 0])), (a2, .inl (G.2 0, 5740, .inl (upd (upd (upd (fun _ => 0) 3 (-1)) 4 1000) 6 (-1))))] := hD
  refine lv_aload_n hx hb dX12_soonest_5 rfl (lv_at hl 0 rfl) ?_
  refine lv_iload_n hx hb dX12_soonest_6 rfl (lv_at hl 1 rfl) ?_
  have hPc := hP.sub (ws' := [(a0, .inr (12, [.int 0, .int 0, .ref a1, .ref a2, .ref a3, .ref a4, .int 0, .ref a5, .int 0, .int 0, .int 0, .int 0, .long 0, .int (-1), .int 0, .int 0, .ref a6, .int 0, .ref a7, .ref a8, .int 0, .ref a9, .ref a10, .int 0, .int 0, .ref a11, .ref a12, .int 0, .ref a13, .ref a14, .int 0, .long 0, .long 0, .int 0, .int 0, .int 0, .int 0, .int 0, .ref a15, .int 0, .int 0, .ref a16, .int 0, .ref a17, .ref a18, .ref a19, .int 0, .ref a20, .ref a21, .long 0, .ref a22, .int 0])), (a2, .inl (G.2 0, 5740, .inl (upd (upd (upd (fun _ => 0) 3 (-1)) 4 1000) 6 (-1))))]) [0, 1] rfl
  have hDc := hD.sub (ws' := [(a0, .inr (12, [.int 0, .int 0, .ref a1, .ref a2, .ref a3, .ref a4, .int 0, .ref a5, .int 0, .int 0, .int 0, .int 0, .long 0, .int (-1), .int 0, .int 0, .ref a6, .int 0, .ref a7, .ref a8, .int 0, .ref a9, .ref a10, .int 0, .int 0, .ref a11, .ref a12, .int 0, .ref a13, .ref a14, .int 0, .long 0, .long 0, .int 0, .int 0, .int 0, .int 0, .int 0, .ref a15, .int 0, .int 0, .ref a16, .int 0, .ref a17, .ref a18, .ref a19, .int 0, .ref a20, .ref a21, .long 0, .ref a22, .int 0])), (a2, .inl (G.2 0, 5740, .inl (upd (upd (upd (fun _ => 0) 3 (-1)) 4 1000) 6 (-1))))]) [0, 1] (by decide) rfl
  have hFc := va_free (wc := [(a0, .inr (12, [.int 0, .int 0, .ref a1, .ref a2, .ref a3, .ref a4, .int 0, .ref a5, .int 0, .int 0, .int 0, .int 0, .long 0, .int (-1), .int 0, .int 0, .ref a6, .int 0, .ref a7, .ref a8, .int 0, .ref a9, .ref a10, .int 0, .int 0, .ref a11, .ref a12, .int 0, .ref a13, .ref a14, .int 0, .long 0, .long 0, .int 0, .int 0, .int 0, .int 0, .int 0, .ref a15, .int 0, .int 0, .ref a16, .int 0, .ref a17, .ref a18, .ref a19, .int 0, .ref a20, .ref a21, .long 0, .ref a22, .int 0])), (a2, .inl (G.2 0, 5740, .inl (upd (upd (upd (fun _ => 0) 3 (-1)) 4 1000) 6 (-1))))]) hD hS hA [0, 1] rfl
  refine va_calli (va_runV (As := [.int n0]) (rest := []) ⟨hx, hb, hml, hown, hts⟩ (kX12_isBody l G a0 a1 a2 a3 a4 a5 a6 a7 a8 a9 a10 a11 a12 a13 a14 a15 a16 a17 a18 a19 a20 a21 a22 H.size n0) (cwV 1 hts gV_X12_180 rfl rfl rfl hv_X12_isBody ⟨Nat.le_of_ble_eq_true rfl, Nat.le_of_ble_eq_true rfl⟩) (g5_preV hPc hK hDc hN hT hS hFc (ci := 12) (q0 := 0) rfl rfl) rfl rfl hl.1 rfl (lv_room (Nat.le_of_ble_eq_true rfl)) dX12_soonest_7 ⟨Nat.le_of_ble_eq_true rfl, Nat.le_of_ble_eq_true rfl⟩) hS (fun q _ h => hFc q h) hFc (fun r u t H1 locs ht hvm hw hB hz1 hk1 hS => ?_)
  obtain ⟨hP1, hD1⟩ := hB
  rw [ht] at hP1
  obtain ⟨i_1, rfl, rfl⟩ := hw
  obtain ⟨hP, hD⟩ := va_join (wr := []) (w1 := [(a0, .inr (12, [.int 0, .int 0, .ref a1, .ref a2, .ref a3, .ref a4, .int 0, .ref a5, .int 0, .int 0, .int 0, .int 0, .long 0, .int (-1), .int 0, .int 0, .ref a6, .int 0, .ref a7, .ref a8, .int 0, .ref a9, .ref a10, .int 0, .int 0, .ref a11, .ref a12, .int 0, .ref a13, .ref a14, .int 0, .long 0, .long 0, .int 0, .int 0, .int 0, .int 0, .int 0, .ref a15, .int 0, .int 0, .ref a16, .int 0, .ref a17, .ref a18, .ref a19, .int 0, .ref a20, .ref a21, .long 0, .ref a22, .int 0])), (a2, .inl (G.2 0, 5740, .inl (upd (upd (upd (fun _ => 0) 3 (-1)) 4 1000) 6 (-1))))]) hP hD [0, 1] [] rfl rfl (by decide) (by decide) hk1 hFc hP1 hD1
  generalize H1 = H at hP hS ⊢
  have hP : va_P G.1 vwCl [(a0, .inr (12, [.int 0, .int 0, .ref a1, .ref a2, .ref a3, .ref a4, .int 0, .ref a5, .int 0, .int 0, .int 0, .int 0, .long 0, .int (-1), .int 0, .int 0, .ref a6, .int 0, .ref a7, .ref a8, .int 0, .ref a9, .ref a10, .int 0, .int 0, .ref a11, .ref a12, .int 0, .ref a13, .ref a14, .int 0, .long 0, .long 0, .int 0, .int 0, .int 0, .int 0, .int 0, .ref a15, .int 0, .int 0, .ref a16, .int 0, .ref a17, .ref a18, .ref a19, .int 0, .ref a20, .ref a21, .long 0, .ref a22, .int 0])), (a2, .inl (G.2 0, 5740, .inl (upd (upd (upd (fun _ => 0) 3 (-1)) 4 1000) 6 (-1))))] H := hP
  have hD : va_D A [(a0, .inr (12, [.int 0, .int 0, .ref a1, .ref a2, .ref a3, .ref a4, .int 0, .ref a5, .int 0, .int 0, .int 0, .int 0, .long 0, .int (-1), .int 0, .int 0, .ref a6, .int 0, .ref a7, .ref a8, .int 0, .ref a9, .ref a10, .int 0, .int 0, .ref a11, .ref a12, .int 0, .ref a13, .ref a14, .int 0, .long 0, .long 0, .int 0, .int 0, .int 0, .int 0, .int 0, .ref a15, .int 0, .int 0, .ref a16, .int 0, .ref a17, .ref a18, .ref a19, .int 0, .ref a20, .ref a21, .long 0, .ref a22, .int 0])), (a2, .inl (G.2 0, 5740, .inl (upd (upd (upd (fun _ => 0) 3 (-1)) 4 1000) 6 (-1))))] := hD
  refine lv_if_eq (tgt := 37) hx hb dX12_soonest_10 (by decide) (fun c_2 => ?_) (fun c_2 => ?_)
  ·
    refine lv_iconst (v := (-1)) hx hb dX12_soonest_37 (by decide) ?_
    have hP := hP.sub (ws' := []) [] rfl
    have hD := hD.sub (ws' := []) [] (by decide) rfl
    exact W.iret (v := (-1)) hx hb hr (fun t ht hW => ⟨⟨(-1), [], rfl, ⟨i_1, rfl, rfl⟩, by rw [ht]; exact hP, hD⟩, hS.F ht⟩) hS.2.2 dX12_soonest_38
  ·
    exact absurd c_2 (by decide)
theorem dX12_way_0 : decode cX12_way 0 = .ok (.aload_n 0, 1) := by decide +kernel
theorem dX12_way_1 : decode cX12_way 1 = .ok (.iconst 0, 1) := by decide +kernel
theorem dX12_way_2 : decode cX12_way 2 = .ok (.putfield 107, 3) := by decide +kernel
theorem dX12_way_5 : decode cX12_way 5 = .ok (.aload_n 0, 1) := by decide +kernel
theorem dX12_way_6 : decode cX12_way 6 = .ok (.iload_n 1, 1) := by decide +kernel
theorem dX12_way_7 : decode cX12_way 7 = .ok (.invokevirtual 180, 3) := by decide +kernel
theorem dX12_way_10 : decode cX12_way 10 = .ok (.ifCond .eq 17, 3) := by decide +kernel
theorem dX12_way_13 : decode cX12_way 13 = .ok (.iload_n 2, 1) := by decide +kernel
theorem dX12_way_14 : decode cX12_way 14 = .ok (.invokestatic 138, 3) := by decide +kernel
theorem dX12_way_17 : decode cX12_way 17 = .ok (.ifCond .eq 10, 3) := by decide +kernel
theorem dX12_way_20 : decode cX12_way 20 = .ok (.iload_n 3, 1) := by decide +kernel
theorem dX12_way_21 : decode cX12_way 21 = .ok (.invokestatic 175, 3) := by decide +kernel
theorem dX12_way_24 : decode cX12_way 24 = .ok (.ifCond .ne 5, 3) := by decide +kernel
theorem dX12_way_27 : decode cX12_way 27 = .ok (.iconst (-1), 1) := by decide +kernel
theorem dX12_way_28 : decode cX12_way 28 = .ok (.ireturn, 1) := by decide +kernel
theorem dX12_way_29 : decode cX12_way 29 = .ok (.aload_n 0, 1) := by decide +kernel
theorem dX12_way_30 : decode cX12_way 30 = .ok (.iload_n 1, 1) := by decide +kernel
theorem dX12_way_31 : decode cX12_way 31 = .ok (.iload_n 2, 1) := by decide +kernel
theorem dX12_way_32 : decode cX12_way 32 = .ok (.iload_n 3, 1) := by decide +kernel
theorem dX12_way_33 : decode cX12_way 33 = .ok (.invokevirtual 466, 3) := by decide +kernel
theorem dX12_way_36 : decode cX12_way 36 = .ok (.istore 5, 2) := by decide +kernel
theorem dX12_way_38 : decode cX12_way 38 = .ok (.iload 4, 2) := by decide +kernel
theorem dX12_way_40 : decode cX12_way 40 = .ok (.i2l, 1) := by decide +kernel
theorem dX12_way_41 : decode cX12_way 41 = .ok (.iload_n 3, 1) := by decide +kernel
theorem dX12_way_42 : decode cX12_way 42 = .ok (.i2l, 1) := by decide +kernel
theorem dX12_way_43 : decode cX12_way 43 = .ok (.iload 5, 2) := by decide +kernel
theorem dX12_way_45 : decode cX12_way 45 = .ok (.i2l, 1) := by decide +kernel
theorem dX12_way_46 : decode cX12_way 46 = .ok (.invokestatic 121, 3) := by decide +kernel
theorem dX12_way_49 : decode cX12_way 49 = .ok (.ifCond .ne 5, 3) := by decide +kernel
theorem dX12_way_52 : decode cX12_way 52 = .ok (.iconst (-1), 1) := by decide +kernel
theorem dX12_way_53 : decode cX12_way 53 = .ok (.ireturn, 1) := by decide +kernel
theorem dX12_way_54 : decode cX12_way 54 = .ok (.iload_n 2, 1) := by decide +kernel
theorem dX12_way_55 : decode cX12_way 55 = .ok (.istore 6, 2) := by decide +kernel
theorem dX12_way_57 : decode cX12_way 57 = .ok (.iload_n 3, 1) := by decide +kernel
theorem dX12_way_58 : decode cX12_way 58 = .ok (.iconst 1, 1) := by decide +kernel
theorem dX12_way_59 : decode cX12_way 59 = .ok (.iadd, 1) := by decide +kernel
theorem dX12_way_60 : decode cX12_way 60 = .ok (.istore 7, 2) := by decide +kernel
theorem dX12_way_62 : decode cX12_way 62 = .ok (.iload 7, 2) := by decide +kernel
theorem dX12_way_64 : decode cX12_way 64 = .ok (.iload 4, 2) := by decide +kernel
theorem dX12_way_66 : decode cX12_way 66 = .ok (.if_icmp .gt 66, 3) := by decide +kernel
theorem dX12_way_69 : decode cX12_way 69 = .ok (.iconst (-1), 1) := by decide +kernel
theorem dX12_way_70 : decode cX12_way 70 = .ok (.istore 8, 2) := by decide +kernel
theorem dX12_way_72 : decode cX12_way 72 = .ok (.bipush 63, 2) := by decide +kernel
theorem dX12_way_74 : decode cX12_way 74 = .ok (.istore 9, 2) := by decide +kernel
theorem dX12_way_76 : decode cX12_way 76 = .ok (.iload 9, 2) := by decide +kernel
theorem dX12_way_78 : decode cX12_way 78 = .ok (.ifCond .lt 44, 3) := by decide +kernel
theorem dX12_way_81 : decode cX12_way 81 = .ok (.iload 6, 2) := by decide +kernel
theorem dX12_way_83 : decode cX12_way 83 = .ok (.iload 9, 2) := by decide +kernel
theorem dX12_way_85 : decode cX12_way 85 = .ok (.invokestatic 454, 3) := by decide +kernel
theorem dX12_way_88 : decode cX12_way 88 = .ok (.ifCond .eq 24, 3) := by decide +kernel
theorem dX12_way_91 : decode cX12_way 91 = .ok (.aload_n 0, 1) := by decide +kernel
theorem dX12_way_92 : decode cX12_way 92 = .ok (.getfield 101, 3) := by decide +kernel
theorem dX12_way_95 : decode cX12_way 95 = .ok (.bipush 64, 2) := by decide +kernel
theorem dX12_way_97 : decode cX12_way 97 = .ok (.iload 7, 2) := by decide +kernel
theorem dX12_way_99 : decode cX12_way 99 = .ok (.imul, 1) := by decide +kernel
theorem dX12_way_100 : decode cX12_way 100 = .ok (.iload 9, 2) := by decide +kernel
theorem dX12_way_102 : decode cX12_way 102 = .ok (.iadd, 1) := by decide +kernel
theorem dX12_way_103 : decode cX12_way 103 = .ok (.baload, 1) := by decide +kernel
theorem dX12_way_104 : decode cX12_way 104 = .ok (.ifCond .eq 8, 3) := by decide +kernel
theorem dX12_way_107 : decode cX12_way 107 = .ok (.iload 9, 2) := by decide +kernel
theorem dX12_way_109 : decode cX12_way 109 = .ok (.goto 5, 3) := by decide +kernel
theorem dX12_way_112 : decode cX12_way 112 = .ok (.iload 8, 2) := by decide +kernel
theorem dX12_way_114 : decode cX12_way 114 = .ok (.istore 8, 2) := by decide +kernel
theorem dX12_way_116 : decode cX12_way 116 = .ok (.iinc 9 (-1), 3) := by decide +kernel
theorem dX12_way_119 : decode cX12_way 119 = .ok (.goto (-43), 3) := by decide +kernel
theorem dX12_way_122 : decode cX12_way 122 = .ok (.iload 8, 2) := by decide +kernel
theorem dX12_way_124 : decode cX12_way 124 = .ok (.istore 6, 2) := by decide +kernel
theorem dX12_way_126 : decode cX12_way 126 = .ok (.iinc 7 1, 3) := by decide +kernel
theorem dX12_way_129 : decode cX12_way 129 = .ok (.goto (-67), 3) := by decide +kernel
theorem dX12_way_132 : decode cX12_way 132 = .ok (.iload 6, 2) := by decide +kernel
theorem dX12_way_134 : decode cX12_way 134 = .ok (.ireturn, 1) := by decide +kernel
set_option maxHeartbeats 4000000 in
set_option maxRecDepth 100000 in
theorem kX12_way (l : Launch) (G : g5_G) (a0 a1 a2 a3 a4 a5 a6 a7 a8 a9 a10 a11 a12 a13 a14 a15 a16 a17 a18 a19 a20 a21 a22 : Nat) (sz : Nat) (n0 : Int32) (n1 : Int32) (n2 : Int32) (n3 : Int32) : Met l yX12_way (wsG yX12_way cX12_way 10 (some .int)) ({ frames := 2, cells := 0, slots := 0, locals := 46 }) (va_Pc [.ref a0, .int n0, .int n1, .int n2, .int n3] (g5_P G [(a0, .inr (12, [.int 0, .int 0, .ref a1, .ref a2, .ref a3, .ref a4, .int 0, .ref a5, .int 0, .int 0, .int 0, .int 0, .long 0, .int (-1), .int 0, .int 0, .ref a6, .int 0, .ref a7, .ref a8, .int 0, .ref a9, .ref a10, .int 0, .int 0, .ref a11, .ref a12, .int 0, .ref a13, .ref a14, .int 0, .long 0, .long 0, .int 0, .int 0, .int 0, .int 0, .int 0, .ref a15, .int 0, .int 0, .ref a16, .int 0, .ref a17, .ref a18, .ref a19, .int 0, .ref a20, .ref a21, .long 0, .ref a22, .int 0])), (a2, .inl (G.2 0, 5740, .inl (upd (upd (upd (fun _ => 0) 3 (-1)) 4 1000) 6 (-1))))] sz)) (va_Qi (fun (r : Int32) (u : va_W) => ((n0.toInt < 0 ∨ (-1) < n0.toInt) ∧ (r = (-1)) ∧ (u = []))) (g5_B G (va_A [(a0, .inr (12, [.int 0, .int 0, .ref a1, .ref a2, .ref a3, .ref a4, .int 0, .ref a5, .int 0, .int 0, .int 0, .int 0, .long 0, .int (-1), .int 0, .int 0, .ref a6, .int 0, .ref a7, .ref a8, .int 0, .ref a9, .ref a10, .int 0, .int 0, .ref a11, .ref a12, .int 0, .ref a13, .ref a14, .int 0, .long 0, .long 0, .int 0, .int 0, .int 0, .int 0, .int 0, .ref a15, .int 0, .int 0, .ref a16, .int 0, .ref a17, .ref a18, .ref a19, .int 0, .ref a20, .ref a21, .long 0, .ref a22, .int 0])), (a2, .inl (G.2 0, 5740, .inl (upd (upd (upd (fun _ => 0) 3 (-1)) 4 1000) 6 (-1))))] sz)) (va_A [(a0, .inr (12, [.int 0, .int 0, .ref a1, .ref a2, .ref a3, .ref a4, .int 0, .ref a5, .int 0, .int 0, .int 0, .int 0, .long 0, .int (-1), .int 0, .int 0, .ref a6, .int 0, .ref a7, .ref a8, .int 0, .ref a9, .ref a10, .int 0, .int 0, .ref a11, .ref a12, .int 0, .ref a13, .ref a14, .int 0, .long 0, .long 0, .int 0, .int 0, .int 0, .int 0, .int 0, .ref a15, .int 0, .int 0, .ref a16, .int 0, .ref a17, .ref a18, .ref a19, .int 0, .ref a20, .ref a21, .long 0, .ref a22, .int 0])), (a2, .inl (G.2 0, 5740, .inl (upd (upd (upd (fun _ => 0) 3 (-1)) 4 1000) 6 (-1))))] sz)) 0 0 (va_A [(a0, .inr (12, [.int 0, .int 0, .ref a1, .ref a2, .ref a3, .ref a4, .int 0, .ref a5, .int 0, .int 0, .int 0, .int 0, .long 0, .int (-1), .int 0, .int 0, .ref a6, .int 0, .ref a7, .ref a8, .int 0, .ref a9, .ref a10, .int 0, .int 0, .ref a11, .ref a12, .int 0, .ref a13, .ref a14, .int 0, .long 0, .long 0, .int 0, .int 0, .int 0, .int 0, .int 0, .ref a15, .int 0, .int 0, .ref a16, .int 0, .ref a17, .ref a18, .ref a19, .int 0, .ref a20, .ref a21, .long 0, .ref a22, .int 0])), (a2, .inl (G.2 0, 5740, .inl (upd (upd (upd (fun _ => 0) 3 (-1)) 4 1000) 6 (-1))))] sz) := by
  refine Met.ofW (cc := cX12_way) (maxL := 10) (ret := (some .int)) (by decide) rfl ?_
  intro p e s m args below meth c s₁ B hml hv
  obtain ⟨rfl, hsz, hP, hK, hD0, hN, hT⟩ := hv
  have hx := B.exec
  have hb := B.bytes
  have hr := B.returns
  have hts : ∀ w ∈ tblG, w.before _ s = true := fun w h => atoms_spec (ws := (wsG yX12_way cX12_way 10 (some .int))) B.pre w (List.mem_cons_of_mem _ h)
  have hown : s.vm.findClass RX12 = some m.cls := findClass_of_methodNamed B.named
  have hlocks := B.notSynchronized
  subst hsz
  have hD := hD0.self (sz := s.heap.size)
  generalize hAe : va_A [(a0, .inr (12, [.int 0, .int 0, .ref a1, .ref a2, .ref a3, .ref a4, .int 0, .ref a5, .int 0, .int 0, .int 0, .int 0, .long 0, .int (-1), .int 0, .int 0, .ref a6, .int 0, .ref a7, .ref a8, .int 0, .ref a9, .ref a10, .int 0, .int 0, .ref a11, .ref a12, .int 0, .ref a13, .ref a14, .int 0, .long 0, .long 0, .int 0, .int 0, .int 0, .int 0, .int 0, .ref a15, .int 0, .int 0, .ref a16, .int 0, .ref a17, .ref a18, .ref a19, .int 0, .ref a20, .ref a21, .long 0, .ref a22, .int 0])), (a2, .inl (G.2 0, 5740, .inl (upd (upd (upd (fun _ => 0) 3 (-1)) 4 1000) 6 (-1))))] s.heap.size = A at hD hT ⊢
  have hA : ∀ q : Nat, s.heap.size ≤ q → A q := fun q h => by rw [← hAe]; exact Or.inr h
  have hS : va_S A s.heap s.heap [] := va_S.rf
  have hP : va_P G.1 vwCl [(a0, .inr (12, [.int 0, .int 0, .ref a1, .ref a2, .ref a3, .ref a4, .int 0, .ref a5, .int 0, .int 0, .int 0, .int 0, .long 0, .int (-1), .int 0, .int 0, .ref a6, .int 0, .ref a7, .ref a8, .int 0, .ref a9, .ref a10, .int 0, .int 0, .ref a11, .ref a12, .int 0, .ref a13, .ref a14, .int 0, .long 0, .long 0, .int 0, .int 0, .int 0, .int 0, .int 0, .ref a15, .int 0, .int 0, .ref a16, .int 0, .ref a17, .ref a18, .ref a19, .int 0, .ref a20, .ref a21, .long 0, .ref a22, .int 0])), (a2, .inl (G.2 0, 5740, .inl (upd (upd (upd (fun _ => 0) 3 (-1)) 4 1000) 6 (-1))))] s.heap := hP
  have hl := lv_entry ([.ref a0, .int n0, .int n1, .int n2, .int n3]) (n := 10) (Nat.le_of_ble_eq_true rfl)
  rw [lg_entry_eq]
  generalize (lg_sl ([.ref a0, .int n0, .int n1, .int n2, .int n3]) ++ List.replicate (10 - (lg_sl ([.ref a0, .int n0, .int n1, .int n2, .int n3])).length) Slot.unset).toArray = ls at hl ⊢
  have hl : lv_has ls 10 [(0, .ref a0), (1, .int n0), (2, .int n1), (3, .int n2), (4, .int n3)] := hl
  refine lv_aload_n hx hb dX12_way_0 rfl (lv_at hl 0 rfl) ?_
  refine lv_iconst (v := 0) hx hb dX12_way_1 (by decide) ?_
  refine va_put (D := G.1) (ci := 12) (v := .int 0) (ty := .int) (C := RX12) (T := TX12) (N := 52) hx hb hts inG_X12 tyX12 tyX12_ok nmX12 hown hK hP hD hS 0 rfl rfl 0 (by decide) (hts _ fl_X12_107) (fun _ h9 => h9) rfl (by decide +kernel) rfl rfl (Nat.le_of_ble_eq_true rfl) dX12_way_2 (fun H locs hP hD hS => ?_)
  have hP : va_P G.1 vwCl [(a0, .inr (12, [.int 0, .int 0, .ref a1, .ref a2, .ref a3, .ref a4, .int 0, .ref a5, .int 0, .int 0, .int 0, .int 0, .long 0, .int (-1), .int 0, .int 0, .ref a6, .int 0, .ref a7, .ref a8, .int 0, .ref a9, .ref a10, .int 0, .int 0, .ref a11, .ref a12, .int 0, .ref a13, .ref a14, .int 0, .long 0, .long 0, .int 0, .int 0, .int 0, .int 0, .int 0, .ref a15, .int 0, .int 0, .ref a16, .int 0, .ref a17, .ref a18, .ref a19, .int 0, .ref a20, .ref a21, .long 0, .ref a22, .int 0])), (a2, .inl (G.2 0, 5740, .inl (upd (upd (upd (fun _ => 0) 3 (-1)) 4 1000) 6 (-1))))] H := hP
  have hD : va_D A [(a0, .inr (12, [.int 0, .int 0, .ref a1, .ref a2, .ref a3, .ref a4, .int 0, .ref a5, .int 0, .int 0, .int 0, .int 0, .long 0, .int (-1), .int 0, .int 0, .ref a6, .int 0, .ref a7, .ref a8, .int 0, .ref a9, .ref a10, .int 0, .int 0, .ref a11, .ref a12, .int 0, .ref a13, .ref a14, .int 0, .long 0, .long 0, .int 0, .int 0, .int 0, .int 0, .int 0, .ref a15, .int 0, .int 0, .ref a16, .int 0, .ref a17, .ref a18, .ref a19, .int 0, .ref a20, .ref a21, .long 0, .ref a22, .int 0])), (a2, .inl (G.2 0, 5740, .inl (upd (upd (upd (fun _ => 0) 3 (-1)) 4 1000) 6 (-1))))] := hD
  refine lv_aload_n hx hb dX12_way_5 rfl (lv_at hl 0 rfl) ?_
  refine lv_iload_n hx hb dX12_way_6 rfl (lv_at hl 1 rfl) ?_
  have hPc := hP.sub (ws' := [(a0, .inr (12, [.int 0, .int 0, .ref a1, .ref a2, .ref a3, .ref a4, .int 0, .ref a5, .int 0, .int 0, .int 0, .int 0, .long 0, .int (-1), .int 0, .int 0, .ref a6, .int 0, .ref a7, .ref a8, .int 0, .ref a9, .ref a10, .int 0, .int 0, .ref a11, .ref a12, .int 0, .ref a13, .ref a14, .int 0, .long 0, .long 0, .int 0, .int 0, .int 0, .int 0, .int 0, .ref a15, .int 0, .int 0, .ref a16, .int 0, .ref a17, .ref a18, .ref a19, .int 0, .ref a20, .ref a21, .long 0, .ref a22, .int 0])), (a2, .inl (G.2 0, 5740, .inl (upd (upd (upd (fun _ => 0) 3 (-1)) 4 1000) 6 (-1))))]) [0, 1] rfl
  have hDc := hD.sub (ws' := [(a0, .inr (12, [.int 0, .int 0, .ref a1, .ref a2, .ref a3, .ref a4, .int 0, .ref a5, .int 0, .int 0, .int 0, .int 0, .long 0, .int (-1), .int 0, .int 0, .ref a6, .int 0, .ref a7, .ref a8, .int 0, .ref a9, .ref a10, .int 0, .int 0, .ref a11, .ref a12, .int 0, .ref a13, .ref a14, .int 0, .long 0, .long 0, .int 0, .int 0, .int 0, .int 0, .int 0, .ref a15, .int 0, .int 0, .ref a16, .int 0, .ref a17, .ref a18, .ref a19, .int 0, .ref a20, .ref a21, .long 0, .ref a22, .int 0])), (a2, .inl (G.2 0, 5740, .inl (upd (upd (upd (fun _ => 0) 3 (-1)) 4 1000) 6 (-1))))]) [0, 1] (by decide) rfl
  have hFc := va_free (wc := [(a0, .inr (12, [.int 0, .int 0, .ref a1, .ref a2, .ref a3, .ref a4, .int 0, .ref a5, .int 0, .int 0, .int 0, .int 0, .long 0, .int (-1), .int 0, .int 0, .ref a6, .int 0, .ref a7, .ref a8, .int 0, .ref a9, .ref a10, .int 0, .int 0, .ref a11, .ref a12, .int 0, .ref a13, .ref a14, .int 0, .long 0, .long 0, .int 0, .int 0, .int 0, .int 0, .int 0, .ref a15, .int 0, .int 0, .ref a16, .int 0, .ref a17, .ref a18, .ref a19, .int 0, .ref a20, .ref a21, .long 0, .ref a22, .int 0])), (a2, .inl (G.2 0, 5740, .inl (upd (upd (upd (fun _ => 0) 3 (-1)) 4 1000) 6 (-1))))]) hD hS hA [0, 1] rfl
  refine va_calli (va_runV (As := [.int n0]) (rest := []) ⟨hx, hb, hml, hown, hts⟩ (kX12_isBody l G a0 a1 a2 a3 a4 a5 a6 a7 a8 a9 a10 a11 a12 a13 a14 a15 a16 a17 a18 a19 a20 a21 a22 H.size n0) (cwV 1 hts gV_X12_180 rfl rfl rfl hv_X12_isBody ⟨Nat.le_of_ble_eq_true rfl, Nat.le_of_ble_eq_true rfl⟩) (g5_preV hPc hK hDc hN hT hS hFc (ci := 12) (q0 := 0) rfl rfl) rfl rfl hl.1 rfl (lv_room (Nat.le_of_ble_eq_true rfl)) dX12_way_7 ⟨Nat.le_of_ble_eq_true rfl, Nat.le_of_ble_eq_true rfl⟩) hS (fun q _ h => hFc q h) hFc (fun r u t H1 locs ht hvm hw hB hz1 hk1 hS => ?_)
  obtain ⟨hP1, hD1⟩ := hB
  rw [ht] at hP1
  obtain ⟨i_1, rfl, rfl⟩ := hw
  obtain ⟨hP, hD⟩ := va_join (wr := []) (w1 := [(a0, .inr (12, [.int 0, .int 0, .ref a1, .ref a2, .ref a3, .ref a4, .int 0, .ref a5, .int 0, .int 0, .int 0, .int 0, .long 0, .int (-1), .int 0, .int 0, .ref a6, .int 0, .ref a7, .ref a8, .int 0, .ref a9, .ref a10, .int 0, .int 0, .ref a11, .ref a12, .int 0, .ref a13, .ref a14, .int 0, .long 0, .long 0, .int 0, .int 0, .int 0, .int 0, .int 0, .ref a15, .int 0, .int 0, .ref a16, .int 0, .ref a17, .ref a18, .ref a19, .int 0, .ref a20, .ref a21, .long 0, .ref a22, .int 0])), (a2, .inl (G.2 0, 5740, .inl (upd (upd (upd (fun _ => 0) 3 (-1)) 4 1000) 6 (-1))))]) hP hD [0, 1] [] rfl rfl (by decide) (by decide) hk1 hFc hP1 hD1
  generalize H1 = H at hP hS ⊢
  have hP : va_P G.1 vwCl [(a0, .inr (12, [.int 0, .int 0, .ref a1, .ref a2, .ref a3, .ref a4, .int 0, .ref a5, .int 0, .int 0, .int 0, .int 0, .long 0, .int (-1), .int 0, .int 0, .ref a6, .int 0, .ref a7, .ref a8, .int 0, .ref a9, .ref a10, .int 0, .int 0, .ref a11, .ref a12, .int 0, .ref a13, .ref a14, .int 0, .long 0, .long 0, .int 0, .int 0, .int 0, .int 0, .int 0, .ref a15, .int 0, .int 0, .ref a16, .int 0, .ref a17, .ref a18, .ref a19, .int 0, .ref a20, .ref a21, .long 0, .ref a22, .int 0])), (a2, .inl (G.2 0, 5740, .inl (upd (upd (upd (fun _ => 0) 3 (-1)) 4 1000) 6 (-1))))] H := hP
  have hD : va_D A [(a0, .inr (12, [.int 0, .int 0, .ref a1, .ref a2, .ref a3, .ref a4, .int 0, .ref a5, .int 0, .int 0, .int 0, .int 0, .long 0, .int (-1), .int 0, .int 0, .ref a6, .int 0, .ref a7, .ref a8, .int 0, .ref a9, .ref a10, .int 0, .int 0, .ref a11, .ref a12, .int 0, .ref a13, .ref a14, .int 0, .long 0, .long 0, .int 0, .int 0, .int 0, .int 0, .int 0, .ref a15, .int 0, .int 0, .ref a16, .int 0, .ref a17, .ref a18, .ref a19, .int 0, .ref a20, .ref a21, .long 0, .ref a22, .int 0])), (a2, .inl (G.2 0, 5740, .inl (upd (upd (upd (fun _ => 0) 3 (-1)) 4 1000) 6 (-1))))] := hD
  refine lv_if_eq (tgt := 27) hx hb dX12_way_10 (by decide) (fun c_2 => ?_) (fun c_2 => ?_)
  ·
    refine lv_iconst (v := (-1)) hx hb dX12_way_27 (by decide) ?_
    have hP := hP.sub (ws' := []) [] rfl
    have hD := hD.sub (ws' := []) [] (by decide) rfl
    exact W.iret (v := (-1)) hx hb hr (fun t ht hW => ⟨⟨(-1), [], rfl, ⟨i_1, rfl, rfl⟩, by rw [ht]; exact hP, hD⟩, hS.F ht⟩) hS.2.2 dX12_way_28
  ·
    exact absurd c_2 (by decide)
theorem dX12_sooner_0 : decode cX12_sooner 0 = .ok (.aload_n 0, 1) := by decide +kernel
theorem dX12_sooner_1 : decode cX12_sooner 1 = .ok (.iconst 0, 1) := by decide +kernel
theorem dX12_sooner_2 : decode cX12_sooner 2 = .ok (.putfield 107, 3) := by decide +kernel
theorem dX12_sooner_5 : decode cX12_sooner 5 = .ok (.aload_n 0, 1) := by decide +kernel
theorem dX12_sooner_6 : decode cX12_sooner 6 = .ok (.iload_n 1, 1) := by decide +kernel
theorem dX12_sooner_7 : decode cX12_sooner 7 = .ok (.invokevirtual 180, 3) := by decide +kernel
theorem dX12_sooner_10 : decode cX12_sooner 10 = .ok (.ifCond .eq 49, 3) := by decide +kernel
theorem dX12_sooner_13 : decode cX12_sooner 13 = .ok (.iload_n 2, 1) := by decide +kernel
theorem dX12_sooner_14 : decode cX12_sooner 14 = .ok (.invokestatic 138, 3) := by decide +kernel
theorem dX12_sooner_17 : decode cX12_sooner 17 = .ok (.ifCond .eq 42, 3) := by decide +kernel
theorem dX12_sooner_20 : decode cX12_sooner 20 = .ok (.iload_n 3, 1) := by decide +kernel
theorem dX12_sooner_21 : decode cX12_sooner 21 = .ok (.invokestatic 175, 3) := by decide +kernel
theorem dX12_sooner_24 : decode cX12_sooner 24 = .ok (.ifCond .eq 35, 3) := by decide +kernel
theorem dX12_sooner_27 : decode cX12_sooner 27 = .ok (.iload 4, 2) := by decide +kernel
theorem dX12_sooner_29 : decode cX12_sooner 29 = .ok (.i2l, 1) := by decide +kernel
theorem dX12_sooner_30 : decode cX12_sooner 30 = .ok (.lconst 0, 1) := by decide +kernel
theorem dX12_sooner_31 : decode cX12_sooner 31 = .ok (.ldc2_w 411, 3) := by decide +kernel
theorem dX12_sooner_34 : decode cX12_sooner 34 = .ok (.invokestatic 121, 3) := by decide +kernel
theorem dX12_sooner_37 : decode cX12_sooner 37 = .ok (.ifCond .eq 22, 3) := by decide +kernel
theorem dX12_sooner_40 : decode cX12_sooner 40 = .ok (.aload_n 0, 1) := by decide +kernel
theorem dX12_sooner_41 : decode cX12_sooner 41 = .ok (.iload_n 2, 1) := by decide +kernel
theorem dX12_sooner_42 : decode cX12_sooner 42 = .ok (.invokestatic 138, 3) := by decide +kernel
theorem dX12_sooner_45 : decode cX12_sooner 45 = .ok (.ifCond .eq 7, 3) := by decide +kernel
theorem dX12_sooner_48 : decode cX12_sooner 48 = .ok (.iload_n 2, 1) := by decide +kernel
theorem dX12_sooner_49 : decode cX12_sooner 49 = .ok (.goto 4, 3) := by decide +kernel
theorem dX12_sooner_52 : decode cX12_sooner 52 = .ok (.iconst 0, 1) := by decide +kernel
theorem dX12_sooner_53 : decode cX12_sooner 53 = .ok (.invokevirtual 160, 3) := by decide +kernel
theorem dX12_sooner_56 : decode cX12_sooner 56 = .ok (.ifCond .eq 5, 3) := by decide +kernel
theorem dX12_sooner_59 : decode cX12_sooner 59 = .ok (.iconst (-1), 1) := by decide +kernel
theorem dX12_sooner_60 : decode cX12_sooner 60 = .ok (.ireturn, 1) := by decide +kernel
theorem dX12_sooner_61 : decode cX12_sooner 61 = .ok (.aload_n 0, 1) := by decide +kernel
theorem dX12_sooner_62 : decode cX12_sooner 62 = .ok (.iload_n 1, 1) := by decide +kernel
theorem dX12_sooner_63 : decode cX12_sooner 63 = .ok (.iload_n 2, 1) := by decide +kernel
theorem dX12_sooner_64 : decode cX12_sooner 64 = .ok (.iload_n 3, 1) := by decide +kernel
theorem dX12_sooner_65 : decode cX12_sooner 65 = .ok (.invokevirtual 466, 3) := by decide +kernel
theorem dX12_sooner_68 : decode cX12_sooner 68 = .ok (.istore 5, 2) := by decide +kernel
theorem dX12_sooner_70 : decode cX12_sooner 70 = .ok (.iload 5, 2) := by decide +kernel
theorem dX12_sooner_72 : decode cX12_sooner 72 = .ok (.iconst (-1), 1) := by decide +kernel
theorem dX12_sooner_73 : decode cX12_sooner 73 = .ok (.if_icmp .ne 8, 3) := by decide +kernel
theorem dX12_sooner_76 : decode cX12_sooner 76 = .ok (.bipush 24, 2) := by decide +kernel
theorem dX12_sooner_78 : decode cX12_sooner 78 = .ok (.goto 5, 3) := by decide +kernel
theorem dX12_sooner_81 : decode cX12_sooner 81 = .ok (.iload 5, 2) := by decide +kernel
theorem dX12_sooner_83 : decode cX12_sooner 83 = .ok (.istore 6, 2) := by decide +kernel
theorem dX12_sooner_85 : decode cX12_sooner 85 = .ok (.iconst (-1), 1) := by decide +kernel
theorem dX12_sooner_86 : decode cX12_sooner 86 = .ok (.istore 7, 2) := by decide +kernel
theorem dX12_sooner_88 : decode cX12_sooner 88 = .ok (.iconst 0, 1) := by decide +kernel
theorem dX12_sooner_89 : decode cX12_sooner 89 = .ok (.istore 8, 2) := by decide +kernel
theorem dX12_sooner_91 : decode cX12_sooner 91 = .ok (.iload 8, 2) := by decide +kernel
theorem dX12_sooner_93 : decode cX12_sooner 93 = .ok (.aload_n 0, 1) := by decide +kernel
theorem dX12_sooner_94 : decode cX12_sooner 94 = .ok (.getfield 13, 3) := by decide +kernel
theorem dX12_sooner_97 : decode cX12_sooner 97 = .ok (.iconst 0, 1) := by decide +kernel
theorem dX12_sooner_98 : decode cX12_sooner 98 = .ok (.iaload, 1) := by decide +kernel
theorem dX12_sooner_99 : decode cX12_sooner 99 = .ok (.if_icmp .ge 136, 3) := by decide +kernel
theorem dX12_sooner_102 : decode cX12_sooner 102 = .ok (.aload_n 0, 1) := by decide +kernel
theorem dX12_sooner_103 : decode cX12_sooner 103 = .ok (.iload 8, 2) := by decide +kernel
theorem dX12_sooner_105 : decode cX12_sooner 105 = .ok (.iconst 1, 1) := by decide +kernel
theorem dX12_sooner_106 : decode cX12_sooner 106 = .ok (.invokevirtual 134, 3) := by decide +kernel
theorem dX12_sooner_109 : decode cX12_sooner 109 = .ok (.istore 9, 2) := by decide +kernel
theorem dX12_sooner_111 : decode cX12_sooner 111 = .ok (.iconst 0, 1) := by decide +kernel
theorem dX12_sooner_112 : decode cX12_sooner 112 = .ok (.istore 10, 2) := by decide +kernel
theorem dX12_sooner_114 : decode cX12_sooner 114 = .ok (.iload 10, 2) := by decide +kernel
theorem dX12_sooner_116 : decode cX12_sooner 116 = .ok (.bipush 6, 2) := by decide +kernel
theorem dX12_sooner_118 : decode cX12_sooner 118 = .ok (.if_icmp .ge 95, 3) := by decide +kernel
theorem dX12_sooner_121 : decode cX12_sooner 121 = .ok (.aload_n 0, 1) := by decide +kernel
theorem dX12_sooner_122 : decode cX12_sooner 122 = .ok (.getfield 13, 3) := by decide +kernel
theorem dX12_sooner_125 : decode cX12_sooner 125 = .ok (.bipush 80, 2) := by decide +kernel
theorem dX12_sooner_127 : decode cX12_sooner 127 = .ok (.iconst 5, 1) := by decide +kernel
theorem dX12_sooner_128 : decode cX12_sooner 128 = .ok (.iload 8, 2) := by decide +kernel
theorem dX12_sooner_130 : decode cX12_sooner 130 = .ok (.imul, 1) := by decide +kernel
theorem dX12_sooner_131 : decode cX12_sooner 131 = .ok (.iadd, 1) := by decide +kernel
theorem dX12_sooner_132 : decode cX12_sooner 132 = .ok (.iconst 1, 1) := by decide +kernel
theorem dX12_sooner_133 : decode cX12_sooner 133 = .ok (.iadd, 1) := by decide +kernel
theorem dX12_sooner_134 : decode cX12_sooner 134 = .ok (.iload 10, 2) := by decide +kernel
theorem dX12_sooner_136 : decode cX12_sooner 136 = .ok (.iastore, 1) := by decide +kernel
theorem dX12_sooner_137 : decode cX12_sooner 137 = .ok (.iload 10, 2) := by decide +kernel
theorem dX12_sooner_139 : decode cX12_sooner 139 = .ok (.iload 9, 2) := by decide +kernel
theorem dX12_sooner_141 : decode cX12_sooner 141 = .ok (.if_icmp .ne 7, 3) := by decide +kernel
theorem dX12_sooner_144 : decode cX12_sooner 144 = .ok (.iconst (-1), 1) := by decide +kernel
theorem dX12_sooner_145 : decode cX12_sooner 145 = .ok (.goto 10, 3) := by decide +kernel
theorem dX12_sooner_148 : decode cX12_sooner 148 = .ok (.aload_n 0, 1) := by decide +kernel
theorem dX12_sooner_149 : decode cX12_sooner 149 = .ok (.iload_n 1, 1) := by decide +kernel
theorem dX12_sooner_150 : decode cX12_sooner 150 = .ok (.iload_n 2, 1) := by decide +kernel
theorem dX12_sooner_151 : decode cX12_sooner 151 = .ok (.iload_n 3, 1) := by decide +kernel
theorem dX12_sooner_152 : decode cX12_sooner 152 = .ok (.invokevirtual 466, 3) := by decide +kernel
theorem dX12_sooner_155 : decode cX12_sooner 155 = .ok (.istore 11, 2) := by decide +kernel
theorem dX12_sooner_157 : decode cX12_sooner 157 = .ok (.iload 11, 2) := by decide +kernel
theorem dX12_sooner_159 : decode cX12_sooner 159 = .ok (.iconst (-1), 1) := by decide +kernel
theorem dX12_sooner_160 : decode cX12_sooner 160 = .ok (.if_icmp .eq 21, 3) := by decide +kernel
theorem dX12_sooner_163 : decode cX12_sooner 163 = .ok (.iload 11, 2) := by decide +kernel
theorem dX12_sooner_165 : decode cX12_sooner 165 = .ok (.iload 6, 2) := by decide +kernel
theorem dX12_sooner_167 : decode cX12_sooner 167 = .ok (.if_icmp .ge 14, 3) := by decide +kernel
theorem dX12_sooner_170 : decode cX12_sooner 170 = .ok (.bipush 6, 2) := by decide +kernel
theorem dX12_sooner_172 : decode cX12_sooner 172 = .ok (.iload 8, 2) := by decide +kernel
theorem dX12_sooner_174 : decode cX12_sooner 174 = .ok (.imul, 1) := by decide +kernel
theorem dX12_sooner_175 : decode cX12_sooner 175 = .ok (.iload 10, 2) := by decide +kernel
theorem dX12_sooner_177 : decode cX12_sooner 177 = .ok (.iadd, 1) := by decide +kernel
theorem dX12_sooner_178 : decode cX12_sooner 178 = .ok (.goto 5, 3) := by decide +kernel
theorem dX12_sooner_181 : decode cX12_sooner 181 = .ok (.iload 7, 2) := by decide +kernel
theorem dX12_sooner_183 : decode cX12_sooner 183 = .ok (.istore 7, 2) := by decide +kernel
theorem dX12_sooner_185 : decode cX12_sooner 185 = .ok (.iload 11, 2) := by decide +kernel
theorem dX12_sooner_187 : decode cX12_sooner 187 = .ok (.iconst (-1), 1) := by decide +kernel
theorem dX12_sooner_188 : decode cX12_sooner 188 = .ok (.if_icmp .eq 15, 3) := by decide +kernel
theorem dX12_sooner_191 : decode cX12_sooner 191 = .ok (.iload 11, 2) := by decide +kernel
theorem dX12_sooner_193 : decode cX12_sooner 193 = .ok (.iload 6, 2) := by decide +kernel
theorem dX12_sooner_195 : decode cX12_sooner 195 = .ok (.if_icmp .ge 8, 3) := by decide +kernel
theorem dX12_sooner_198 : decode cX12_sooner 198 = .ok (.iload 11, 2) := by decide +kernel
theorem dX12_sooner_200 : decode cX12_sooner 200 = .ok (.goto 5, 3) := by decide +kernel
theorem dX12_sooner_203 : decode cX12_sooner 203 = .ok (.iload 6, 2) := by decide +kernel
theorem dX12_sooner_205 : decode cX12_sooner 205 = .ok (.istore 6, 2) := by decide +kernel
theorem dX12_sooner_207 : decode cX12_sooner 207 = .ok (.iinc 10 1, 3) := by decide +kernel
theorem dX12_sooner_210 : decode cX12_sooner 210 = .ok (.goto (-96), 3) := by decide +kernel
theorem dX12_sooner_213 : decode cX12_sooner 213 = .ok (.aload_n 0, 1) := by decide +kernel
theorem dX12_sooner_214 : decode cX12_sooner 214 = .ok (.getfield 13, 3) := by decide +kernel
theorem dX12_sooner_217 : decode cX12_sooner 217 = .ok (.bipush 80, 2) := by decide +kernel
theorem dX12_sooner_219 : decode cX12_sooner 219 = .ok (.iconst 5, 1) := by decide +kernel
theorem dX12_sooner_220 : decode cX12_sooner 220 = .ok (.iload 8, 2) := by decide +kernel
theorem dX12_sooner_222 : decode cX12_sooner 222 = .ok (.imul, 1) := by decide +kernel
theorem dX12_sooner_223 : decode cX12_sooner 223 = .ok (.iadd, 1) := by decide +kernel
theorem dX12_sooner_224 : decode cX12_sooner 224 = .ok (.iconst 1, 1) := by decide +kernel
theorem dX12_sooner_225 : decode cX12_sooner 225 = .ok (.iadd, 1) := by decide +kernel
theorem dX12_sooner_226 : decode cX12_sooner 226 = .ok (.iload 9, 2) := by decide +kernel
theorem dX12_sooner_228 : decode cX12_sooner 228 = .ok (.iastore, 1) := by decide +kernel
theorem dX12_sooner_229 : decode cX12_sooner 229 = .ok (.iinc 8 1, 3) := by decide +kernel
theorem dX12_sooner_232 : decode cX12_sooner 232 = .ok (.goto (-141), 3) := by decide +kernel
theorem dX12_sooner_235 : decode cX12_sooner 235 = .ok (.iload 7, 2) := by decide +kernel
theorem dX12_sooner_237 : decode cX12_sooner 237 = .ok (.iconst (-1), 1) := by decide +kernel
theorem dX12_sooner_238 : decode cX12_sooner 238 = .ok (.if_icmp .ne 7, 3) := by decide +kernel
theorem dX12_sooner_241 : decode cX12_sooner 241 = .ok (.iconst (-1), 1) := by decide +kernel
theorem dX12_sooner_242 : decode cX12_sooner 242 = .ok (.goto 32, 3) := by decide +kernel
theorem dX12_sooner_245 : decode cX12_sooner 245 = .ok (.iload 4, 2) := by decide +kernel
theorem dX12_sooner_247 : decode cX12_sooner 247 = .ok (.ifCond .ne 8, 3) := by decide +kernel
theorem dX12_sooner_250 : decode cX12_sooner 250 = .ok (.iload 6, 2) := by decide +kernel
theorem dX12_sooner_252 : decode cX12_sooner 252 = .ok (.goto 22, 3) := by decide +kernel
theorem dX12_sooner_255 : decode cX12_sooner 255 = .ok (.iload 4, 2) := by decide +kernel
theorem dX12_sooner_257 : decode cX12_sooner 257 = .ok (.iconst 1, 1) := by decide +kernel
theorem dX12_sooner_258 : decode cX12_sooner 258 = .ok (.if_icmp .ne 11, 3) := by decide +kernel
theorem dX12_sooner_261 : decode cX12_sooner 261 = .ok (.iload 7, 2) := by decide +kernel
theorem dX12_sooner_263 : decode cX12_sooner 263 = .ok (.bipush 6, 2) := by decide +kernel
theorem dX12_sooner_265 : decode cX12_sooner 265 = .ok (.idiv, 1) := by decide +kernel
theorem dX12_sooner_266 : decode cX12_sooner 266 = .ok (.goto 8, 3) := by decide +kernel
theorem dX12_sooner_269 : decode cX12_sooner 269 = .ok (.iload 7, 2) := by decide +kernel
theorem dX12_sooner_271 : decode cX12_sooner 271 = .ok (.bipush 6, 2) := by decide +kernel
theorem dX12_sooner_273 : decode cX12_sooner 273 = .ok (.irem, 1) := by decide +kernel
theorem dX12_sooner_274 : decode cX12_sooner 274 = .ok (.ireturn, 1) := by decide +kernel
set_option maxHeartbeats 4000000 in
set_option maxRecDepth 100000 in
theorem kX12_sooner (l : Launch) (G : g5_G) (a0 a1 a2 a3 a4 a5 a6 a7 a8 a9 a10 a11 a12 a13 a14 a15 a16 a17 a18 a19 a20 a21 a22 : Nat) (sz : Nat) (n0 : Int32) (n1 : Int32) (n2 : Int32) (n3 : Int32) : Met l yX12_sooner (wsG yX12_sooner cX12_sooner 12 (some .int)) ({ frames := 2, cells := 0, slots := 0, locals := 46 }) (va_Pc [.ref a0, .int n0, .int n1, .int n2, .int n3] (g5_P G [(a0, .inr (12, [.int 0, .int 0, .ref a1, .ref a2, .ref a3, .ref a4, .int 0, .ref a5, .int 0, .int 0, .int 0, .int 0, .long 0, .int (-1), .int 0, .int 0, .ref a6, .int 0, .ref a7, .ref a8, .int 0, .ref a9, .ref a10, .int 0, .int 0, .ref a11, .ref a12, .int 0, .ref a13, .ref a14, .int 0, .long 0, .long 0, .int 0, .int 0, .int 0, .int 0, .int 0, .ref a15, .int 0, .int 0, .ref a16, .int 0, .ref a17, .ref a18, .ref a19, .int 0, .ref a20, .ref a21, .long 0, .ref a22, .int 0])), (a2, .inl (G.2 0, 5740, .inl (upd (upd (upd (fun _ => 0) 3 (-1)) 4 1000) 6 (-1))))] sz)) (va_Qi (fun (r : Int32) (u : va_W) => ((n0.toInt < 0 ∨ (-1) < n0.toInt) ∧ (r = (-1)) ∧ (u = []))) (g5_B G (va_A [(a0, .inr (12, [.int 0, .int 0, .ref a1, .ref a2, .ref a3, .ref a4, .int 0, .ref a5, .int 0, .int 0, .int 0, .int 0, .long 0, .int (-1), .int 0, .int 0, .ref a6, .int 0, .ref a7, .ref a8, .int 0, .ref a9, .ref a10, .int 0, .int 0, .ref a11, .ref a12, .int 0, .ref a13, .ref a14, .int 0, .long 0, .long 0, .int 0, .int 0, .int 0, .int 0, .int 0, .ref a15, .int 0, .int 0, .ref a16, .int 0, .ref a17, .ref a18, .ref a19, .int 0, .ref a20, .ref a21, .long 0, .ref a22, .int 0])), (a2, .inl (G.2 0, 5740, .inl (upd (upd (upd (fun _ => 0) 3 (-1)) 4 1000) 6 (-1))))] sz)) (va_A [(a0, .inr (12, [.int 0, .int 0, .ref a1, .ref a2, .ref a3, .ref a4, .int 0, .ref a5, .int 0, .int 0, .int 0, .int 0, .long 0, .int (-1), .int 0, .int 0, .ref a6, .int 0, .ref a7, .ref a8, .int 0, .ref a9, .ref a10, .int 0, .int 0, .ref a11, .ref a12, .int 0, .ref a13, .ref a14, .int 0, .long 0, .long 0, .int 0, .int 0, .int 0, .int 0, .int 0, .ref a15, .int 0, .int 0, .ref a16, .int 0, .ref a17, .ref a18, .ref a19, .int 0, .ref a20, .ref a21, .long 0, .ref a22, .int 0])), (a2, .inl (G.2 0, 5740, .inl (upd (upd (upd (fun _ => 0) 3 (-1)) 4 1000) 6 (-1))))] sz)) 0 0 (va_A [(a0, .inr (12, [.int 0, .int 0, .ref a1, .ref a2, .ref a3, .ref a4, .int 0, .ref a5, .int 0, .int 0, .int 0, .int 0, .long 0, .int (-1), .int 0, .int 0, .ref a6, .int 0, .ref a7, .ref a8, .int 0, .ref a9, .ref a10, .int 0, .int 0, .ref a11, .ref a12, .int 0, .ref a13, .ref a14, .int 0, .long 0, .long 0, .int 0, .int 0, .int 0, .int 0, .int 0, .ref a15, .int 0, .int 0, .ref a16, .int 0, .ref a17, .ref a18, .ref a19, .int 0, .ref a20, .ref a21, .long 0, .ref a22, .int 0])), (a2, .inl (G.2 0, 5740, .inl (upd (upd (upd (fun _ => 0) 3 (-1)) 4 1000) 6 (-1))))] sz) := by
  refine Met.ofW (cc := cX12_sooner) (maxL := 12) (ret := (some .int)) (by decide) rfl ?_
  intro p e s m args below meth c s₁ B hml hv
  obtain ⟨rfl, hsz, hP, hK, hD0, hN, hT⟩ := hv
  have hx := B.exec
  have hb := B.bytes
  have hr := B.returns
  have hts : ∀ w ∈ tblG, w.before _ s = true := fun w h => atoms_spec (ws := (wsG yX12_sooner cX12_sooner 12 (some .int))) B.pre w (List.mem_cons_of_mem _ h)
  have hown : s.vm.findClass RX12 = some m.cls := findClass_of_methodNamed B.named
  have hlocks := B.notSynchronized
  subst hsz
  have hD := hD0.self (sz := s.heap.size)
  generalize hAe : va_A [(a0, .inr (12, [.int 0, .int 0, .ref a1, .ref a2, .ref a3, .ref a4, .int 0, .ref a5, .int 0, .int 0, .int 0, .int 0, .long 0, .int (-1), .int 0, .int 0, .ref a6, .int 0, .ref a7, .ref a8, .int 0, .ref a9, .ref a10, .int 0, .int 0, .ref a11, .ref a12, .int 0, .ref a13, .ref a14, .int 0, .long 0, .long 0, .int 0, .int 0, .int 0, .int 0, .int 0, .ref a15, .int 0, .int 0, .ref a16, .int 0, .ref a17, .ref a18, .ref a19, .int 0, .ref a20, .ref a21, .long 0, .ref a22, .int 0])), (a2, .inl (G.2 0, 5740, .inl (upd (upd (upd (fun _ => 0) 3 (-1)) 4 1000) 6 (-1))))] s.heap.size = A at hD hT ⊢
  have hA : ∀ q : Nat, s.heap.size ≤ q → A q := fun q h => by rw [← hAe]; exact Or.inr h
  have hS : va_S A s.heap s.heap [] := va_S.rf
  have hP : va_P G.1 vwCl [(a0, .inr (12, [.int 0, .int 0, .ref a1, .ref a2, .ref a3, .ref a4, .int 0, .ref a5, .int 0, .int 0, .int 0, .int 0, .long 0, .int (-1), .int 0, .int 0, .ref a6, .int 0, .ref a7, .ref a8, .int 0, .ref a9, .ref a10, .int 0, .int 0, .ref a11, .ref a12, .int 0, .ref a13, .ref a14, .int 0, .long 0, .long 0, .int 0, .int 0, .int 0, .int 0, .int 0, .ref a15, .int 0, .int 0, .ref a16, .int 0, .ref a17, .ref a18, .ref a19, .int 0, .ref a20, .ref a21, .long 0, .ref a22, .int 0])), (a2, .inl (G.2 0, 5740, .inl (upd (upd (upd (fun _ => 0) 3 (-1)) 4 1000) 6 (-1))))] s.heap := hP
  have hl := lv_entry ([.ref a0, .int n0, .int n1, .int n2, .int n3]) (n := 12) (Nat.le_of_ble_eq_true rfl)
  rw [lg_entry_eq]
  generalize (lg_sl ([.ref a0, .int n0, .int n1, .int n2, .int n3]) ++ List.replicate (12 - (lg_sl ([.ref a0, .int n0, .int n1, .int n2, .int n3])).length) Slot.unset).toArray = ls at hl ⊢
  have hl : lv_has ls 12 [(0, .ref a0), (1, .int n0), (2, .int n1), (3, .int n2), (4, .int n3)] := hl
  refine lv_aload_n hx hb dX12_sooner_0 rfl (lv_at hl 0 rfl) ?_
  refine lv_iconst (v := 0) hx hb dX12_sooner_1 (by decide) ?_
  refine va_put (D := G.1) (ci := 12) (v := .int 0) (ty := .int) (C := RX12) (T := TX12) (N := 52) hx hb hts inG_X12 tyX12 tyX12_ok nmX12 hown hK hP hD hS 0 rfl rfl 0 (by decide) (hts _ fl_X12_107) (fun _ h9 => h9) rfl (by decide +kernel) rfl rfl (Nat.le_of_ble_eq_true rfl) dX12_sooner_2 (fun H locs hP hD hS => ?_)
  have hP : va_P G.1 vwCl [(a0, .inr (12, [.int 0, .int 0, .ref a1, .ref a2, .ref a3, .ref a4, .int 0, .ref a5, .int 0, .int 0, .int 0, .int 0, .long 0, .int (-1), .int 0, .int 0, .ref a6, .int 0, .ref a7, .ref a8, .int 0, .ref a9, .ref a10, .int 0, .int 0, .ref a11, .ref a12, .int 0, .ref a13, .ref a14, .int 0, .long 0, .long 0, .int 0, .int 0, .int 0, .int 0, .int 0, .ref a15, .int 0, .int 0, .ref a16, .int 0, .ref a17, .ref a18, .ref a19, .int 0, .ref a20, .ref a21, .long 0, .ref a22, .int 0])), (a2, .inl (G.2 0, 5740, .inl (upd (upd (upd (fun _ => 0) 3 (-1)) 4 1000) 6 (-1))))] H := hP
  have hD : va_D A [(a0, .inr (12, [.int 0, .int 0, .ref a1, .ref a2, .ref a3, .ref a4, .int 0, .ref a5, .int 0, .int 0, .int 0, .int 0, .long 0, .int (-1), .int 0, .int 0, .ref a6, .int 0, .ref a7, .ref a8, .int 0, .ref a9, .ref a10, .int 0, .int 0, .ref a11, .ref a12, .int 0, .ref a13, .ref a14, .int 0, .long 0, .long 0, .int 0, .int 0, .int 0, .int 0, .int 0, .ref a15, .int 0, .int 0, .ref a16, .int 0, .ref a17, .ref a18, .ref a19, .int 0, .ref a20, .ref a21, .long 0, .ref a22, .int 0])), (a2, .inl (G.2 0, 5740, .inl (upd (upd (upd (fun _ => 0) 3 (-1)) 4 1000) 6 (-1))))] := hD
  refine lv_aload_n hx hb dX12_sooner_5 rfl (lv_at hl 0 rfl) ?_
  refine lv_iload_n hx hb dX12_sooner_6 rfl (lv_at hl 1 rfl) ?_
  have hPc := hP.sub (ws' := [(a0, .inr (12, [.int 0, .int 0, .ref a1, .ref a2, .ref a3, .ref a4, .int 0, .ref a5, .int 0, .int 0, .int 0, .int 0, .long 0, .int (-1), .int 0, .int 0, .ref a6, .int 0, .ref a7, .ref a8, .int 0, .ref a9, .ref a10, .int 0, .int 0, .ref a11, .ref a12, .int 0, .ref a13, .ref a14, .int 0, .long 0, .long 0, .int 0, .int 0, .int 0, .int 0, .int 0, .ref a15, .int 0, .int 0, .ref a16, .int 0, .ref a17, .ref a18, .ref a19, .int 0, .ref a20, .ref a21, .long 0, .ref a22, .int 0])), (a2, .inl (G.2 0, 5740, .inl (upd (upd (upd (fun _ => 0) 3 (-1)) 4 1000) 6 (-1))))]) [0, 1] rfl
  have hDc := hD.sub (ws' := [(a0, .inr (12, [.int 0, .int 0, .ref a1, .ref a2, .ref a3, .ref a4, .int 0, .ref a5, .int 0, .int 0, .int 0, .int 0, .long 0, .int (-1), .int 0, .int 0, .ref a6, .int 0, .ref a7, .ref a8, .int 0, .ref a9, .ref a10, .int 0, .int 0, .ref a11, .ref a12, .int 0, .ref a13, .ref a14, .int 0, .long 0, .long 0, .int 0, .int 0, .int 0, .int 0, .int 0, .ref a15, .int 0, .int 0, .ref a16, .int 0, .ref a17, .ref a18, .ref a19, .int 0, .ref a20, .ref a21, .long 0, .ref a22, .int 0])), (a2, .inl (G.2 0, 5740, .inl (upd (upd (upd (fun _ => 0) 3 (-1)) 4 1000) 6 (-1))))]) [0, 1] (by decide) rfl
  have hFc := va_free (wc := [(a0, .inr (12, [.int 0, .int 0, .ref a1, .ref a2, .ref a3, .ref a4, .int 0, .ref a5, .int 0, .int 0, .int 0, .int 0, .long 0, .int (-1), .int 0, .int 0, .ref a6, .int 0, .ref a7, .ref a8, .int 0, .ref a9, .ref a10, .int 0, .int 0, .ref a11, .ref a12, .int 0, .ref a13, .ref a14, .int 0, .long 0, .long 0, .int 0, .int 0, .int 0, .int 0, .int 0, .ref a15, .int 0, .int 0, .ref a16, .int 0, .ref a17, .ref a18, .ref a19, .int 0, .ref a20, .ref a21, .long 0, .ref a22, .int 0])), (a2, .inl (G.2 0, 5740, .inl (upd (upd (upd (fun _ => 0) 3 (-1)) 4 1000) 6 (-1))))]) hD hS hA [0, 1] rfl
  refine va_calli (va_runV (As := [.int n0]) (rest := []) ⟨hx, hb, hml, hown, hts⟩ (kX12_isBody l G a0 a1 a2 a3 a4 a5 a6 a7 a8 a9 a10 a11 a12 a13 a14 a15 a16 a17 a18 a19 a20 a21 a22 H.size n0) (cwV 1 hts gV_X12_180 rfl rfl rfl hv_X12_isBody ⟨Nat.le_of_ble_eq_true rfl, Nat.le_of_ble_eq_true rfl⟩) (g5_preV hPc hK hDc hN hT hS hFc (ci := 12) (q0 := 0) rfl rfl) rfl rfl hl.1 rfl (lv_room (Nat.le_of_ble_eq_true rfl)) dX12_sooner_7 ⟨Nat.le_of_ble_eq_true rfl, Nat.le_of_ble_eq_true rfl⟩) hS (fun q _ h => hFc q h) hFc (fun r u t H1 locs ht hvm hw hB hz1 hk1 hS => ?_)
  obtain ⟨hP1, hD1⟩ := hB
  rw [ht] at hP1
  obtain ⟨i_1, rfl, rfl⟩ := hw
  obtain ⟨hP, hD⟩ := va_join (wr := []) (w1 := [(a0, .inr (12, [.int 0, .int 0, .ref a1, .ref a2, .ref a3, .ref a4, .int 0, .ref a5, .int 0, .int 0, .int 0, .int 0, .long 0, .int (-1), .int 0, .int 0, .ref a6, .int 0, .ref a7, .ref a8, .int 0, .ref a9, .ref a10, .int 0, .int 0, .ref a11, .ref a12, .int 0, .ref a13, .ref a14, .int 0, .long 0, .long 0, .int 0, .int 0, .int 0, .int 0, .int 0, .ref a15, .int 0, .int 0, .ref a16, .int 0, .ref a17, .ref a18, .ref a19, .int 0, .ref a20, .ref a21, .long 0, .ref a22, .int 0])), (a2, .inl (G.2 0, 5740, .inl (upd (upd (upd (fun _ => 0) 3 (-1)) 4 1000) 6 (-1))))]) hP hD [0, 1] [] rfl rfl (by decide) (by decide) hk1 hFc hP1 hD1
  generalize H1 = H at hP hS ⊢
  have hP : va_P G.1 vwCl [(a0, .inr (12, [.int 0, .int 0, .ref a1, .ref a2, .ref a3, .ref a4, .int 0, .ref a5, .int 0, .int 0, .int 0, .int 0, .long 0, .int (-1), .int 0, .int 0, .ref a6, .int 0, .ref a7, .ref a8, .int 0, .ref a9, .ref a10, .int 0, .int 0, .ref a11, .ref a12, .int 0, .ref a13, .ref a14, .int 0, .long 0, .long 0, .int 0, .int 0, .int 0, .int 0, .int 0, .ref a15, .int 0, .int 0, .ref a16, .int 0, .ref a17, .ref a18, .ref a19, .int 0, .ref a20, .ref a21, .long 0, .ref a22, .int 0])), (a2, .inl (G.2 0, 5740, .inl (upd (upd (upd (fun _ => 0) 3 (-1)) 4 1000) 6 (-1))))] H := hP
  have hD : va_D A [(a0, .inr (12, [.int 0, .int 0, .ref a1, .ref a2, .ref a3, .ref a4, .int 0, .ref a5, .int 0, .int 0, .int 0, .int 0, .long 0, .int (-1), .int 0, .int 0, .ref a6, .int 0, .ref a7, .ref a8, .int 0, .ref a9, .ref a10, .int 0, .int 0, .ref a11, .ref a12, .int 0, .ref a13, .ref a14, .int 0, .long 0, .long 0, .int 0, .int 0, .int 0, .int 0, .int 0, .ref a15, .int 0, .int 0, .ref a16, .int 0, .ref a17, .ref a18, .ref a19, .int 0, .ref a20, .ref a21, .long 0, .ref a22, .int 0])), (a2, .inl (G.2 0, 5740, .inl (upd (upd (upd (fun _ => 0) 3 (-1)) 4 1000) 6 (-1))))] := hD
  refine lv_if_eq (tgt := 59) hx hb dX12_sooner_10 (by decide) (fun c_2 => ?_) (fun c_2 => ?_)
  ·
    refine lv_iconst (v := (-1)) hx hb dX12_sooner_59 (by decide) ?_
    have hP := hP.sub (ws' := []) [] rfl
    have hD := hD.sub (ws' := []) [] (by decide) rfl
    exact W.iret (v := (-1)) hx hb hr (fun t ht hW => ⟨⟨(-1), [], rfl, ⟨i_1, rfl, rfl⟩, by rw [ht]; exact hP, hD⟩, hS.F ht⟩) hS.2.2 dX12_sooner_60
  ·
    exact absurd c_2 (by decide)
theorem dX12_drawn_0 : decode cX12_drawn 0 = .ok (.aload_n 0, 1) := by decide +kernel
theorem dX12_drawn_1 : decode cX12_drawn 1 = .ok (.iconst 0, 1) := by decide +kernel
theorem dX12_drawn_2 : decode cX12_drawn 2 = .ok (.putfield 107, 3) := by decide +kernel
theorem dX12_drawn_5 : decode cX12_drawn 5 = .ok (.aload_n 0, 1) := by decide +kernel
theorem dX12_drawn_6 : decode cX12_drawn 6 = .ok (.getfield 478, 3) := by decide +kernel
theorem dX12_drawn_9 : decode cX12_drawn 9 = .ok (.ifCond .eq 19, 3) := by decide +kernel
theorem dX12_drawn_12 : decode cX12_drawn 12 = .ok (.iload_n 1, 1) := by decide +kernel
theorem dX12_drawn_13 : decode cX12_drawn 13 = .ok (.invokestatic 175, 3) := by decide +kernel
theorem dX12_drawn_16 : decode cX12_drawn 16 = .ok (.ifCond .eq 12, 3) := by decide +kernel
theorem dX12_drawn_19 : decode cX12_drawn 19 = .ok (.aload_n 0, 1) := by decide +kernel
theorem dX12_drawn_20 : decode cX12_drawn 20 = .ok (.getfield 104, 3) := by decide +kernel
theorem dX12_drawn_23 : decode cX12_drawn 23 = .ok (.iload_n 1, 1) := by decide +kernel
theorem dX12_drawn_24 : decode cX12_drawn 24 = .ok (.iaload, 1) := by decide +kernel
theorem dX12_drawn_25 : decode cX12_drawn 25 = .ok (.goto 4, 3) := by decide +kernel
theorem dX12_drawn_28 : decode cX12_drawn 28 = .ok (.iconst (-1), 1) := by decide +kernel
theorem dX12_drawn_29 : decode cX12_drawn 29 = .ok (.ireturn, 1) := by decide +kernel
set_option maxHeartbeats 4000000 in
set_option maxRecDepth 100000 in
theorem kX12_drawn (l : Launch) (G : g5_G) (a0 a1 a2 a3 a4 a5 a6 a7 a8 a9 a10 a11 a12 a13 a14 a15 a16 a17 a18 a19 a20 a21 a22 : Nat) (sz : Nat) (n0 : Int32) : Met l yX12_drawn (wsG yX12_drawn cX12_drawn 2 (some .int)) ({ frames := 0, cells := 0, slots := 0, locals := 0 }) (va_Pc [.ref a0, .int n0] (g5_P G [(a0, .inr (12, [.int 0, .int 0, .ref a1, .ref a2, .ref a3, .ref a4, .int 0, .ref a5, .int 0, .int 0, .int 0, .int 0, .long 0, .int (-1), .int 0, .int 0, .ref a6, .int 0, .ref a7, .ref a8, .int 0, .ref a9, .ref a10, .int 0, .int 0, .ref a11, .ref a12, .int 0, .ref a13, .ref a14, .int 0, .long 0, .long 0, .int 0, .int 0, .int 0, .int 0, .int 0, .ref a15, .int 0, .int 0, .ref a16, .int 0, .ref a17, .ref a18, .ref a19, .int 0, .ref a20, .ref a21, .long 0, .ref a22, .int 0]))] sz)) (va_Qi (fun (r : Int32) (u : va_W) => ((r = (-1)) ∧ (u = []))) (g5_B G (va_A [(a0, .inr (12, [.int 0, .int 0, .ref a1, .ref a2, .ref a3, .ref a4, .int 0, .ref a5, .int 0, .int 0, .int 0, .int 0, .long 0, .int (-1), .int 0, .int 0, .ref a6, .int 0, .ref a7, .ref a8, .int 0, .ref a9, .ref a10, .int 0, .int 0, .ref a11, .ref a12, .int 0, .ref a13, .ref a14, .int 0, .long 0, .long 0, .int 0, .int 0, .int 0, .int 0, .int 0, .ref a15, .int 0, .int 0, .ref a16, .int 0, .ref a17, .ref a18, .ref a19, .int 0, .ref a20, .ref a21, .long 0, .ref a22, .int 0]))] sz)) (va_A [(a0, .inr (12, [.int 0, .int 0, .ref a1, .ref a2, .ref a3, .ref a4, .int 0, .ref a5, .int 0, .int 0, .int 0, .int 0, .long 0, .int (-1), .int 0, .int 0, .ref a6, .int 0, .ref a7, .ref a8, .int 0, .ref a9, .ref a10, .int 0, .int 0, .ref a11, .ref a12, .int 0, .ref a13, .ref a14, .int 0, .long 0, .long 0, .int 0, .int 0, .int 0, .int 0, .int 0, .ref a15, .int 0, .int 0, .ref a16, .int 0, .ref a17, .ref a18, .ref a19, .int 0, .ref a20, .ref a21, .long 0, .ref a22, .int 0]))] sz)) 0 0 (va_A [(a0, .inr (12, [.int 0, .int 0, .ref a1, .ref a2, .ref a3, .ref a4, .int 0, .ref a5, .int 0, .int 0, .int 0, .int 0, .long 0, .int (-1), .int 0, .int 0, .ref a6, .int 0, .ref a7, .ref a8, .int 0, .ref a9, .ref a10, .int 0, .int 0, .ref a11, .ref a12, .int 0, .ref a13, .ref a14, .int 0, .long 0, .long 0, .int 0, .int 0, .int 0, .int 0, .int 0, .ref a15, .int 0, .int 0, .ref a16, .int 0, .ref a17, .ref a18, .ref a19, .int 0, .ref a20, .ref a21, .long 0, .ref a22, .int 0]))] sz) := by
  refine Met.ofW (cc := cX12_drawn) (maxL := 2) (ret := (some .int)) (by decide) rfl ?_
  intro p e s m args below meth c s₁ B hml hv
  obtain ⟨rfl, hsz, hP, hK, hD0, hN, hT⟩ := hv
  have hx := B.exec
  have hb := B.bytes
  have hr := B.returns
  have hts : ∀ w ∈ tblG, w.before _ s = true := fun w h => atoms_spec (ws := (wsG yX12_drawn cX12_drawn 2 (some .int))) B.pre w (List.mem_cons_of_mem _ h)
  have hown : s.vm.findClass RX12 = some m.cls := findClass_of_methodNamed B.named
  have hlocks := B.notSynchronized
  subst hsz
  have hD := hD0.self (sz := s.heap.size)
  generalize hAe : va_A [(a0, .inr (12, [.int 0, .int 0, .ref a1, .ref a2, .ref a3, .ref a4, .int 0, .ref a5, .int 0, .int 0, .int 0, .int 0, .long 0, .int (-1), .int 0, .int 0, .ref a6, .int 0, .ref a7, .ref a8, .int 0, .ref a9, .ref a10, .int 0, .int 0, .ref a11, .ref a12, .int 0, .ref a13, .ref a14, .int 0, .long 0, .long 0, .int 0, .int 0, .int 0, .int 0, .int 0, .ref a15, .int 0, .int 0, .ref a16, .int 0, .ref a17, .ref a18, .ref a19, .int 0, .ref a20, .ref a21, .long 0, .ref a22, .int 0]))] s.heap.size = A at hD hT ⊢
  have hA : ∀ q : Nat, s.heap.size ≤ q → A q := fun q h => by rw [← hAe]; exact Or.inr h
  have hS : va_S A s.heap s.heap [] := va_S.rf
  have hP : va_P G.1 vwCl [(a0, .inr (12, [.int 0, .int 0, .ref a1, .ref a2, .ref a3, .ref a4, .int 0, .ref a5, .int 0, .int 0, .int 0, .int 0, .long 0, .int (-1), .int 0, .int 0, .ref a6, .int 0, .ref a7, .ref a8, .int 0, .ref a9, .ref a10, .int 0, .int 0, .ref a11, .ref a12, .int 0, .ref a13, .ref a14, .int 0, .long 0, .long 0, .int 0, .int 0, .int 0, .int 0, .int 0, .ref a15, .int 0, .int 0, .ref a16, .int 0, .ref a17, .ref a18, .ref a19, .int 0, .ref a20, .ref a21, .long 0, .ref a22, .int 0]))] s.heap := hP
  have hl := lv_entry ([.ref a0, .int n0]) (n := 2) (Nat.le_of_ble_eq_true rfl)
  rw [lg_entry_eq]
  generalize (lg_sl ([.ref a0, .int n0]) ++ List.replicate (2 - (lg_sl ([.ref a0, .int n0])).length) Slot.unset).toArray = ls at hl ⊢
  have hl : lv_has ls 2 [(0, .ref a0), (1, .int n0)] := hl
  refine lv_aload_n hx hb dX12_drawn_0 rfl (lv_at hl 0 rfl) ?_
  refine lv_iconst (v := 0) hx hb dX12_drawn_1 (by decide) ?_
  refine va_put (D := G.1) (ci := 12) (v := .int 0) (ty := .int) (C := RX12) (T := TX12) (N := 52) hx hb hts inG_X12 tyX12 tyX12_ok nmX12 hown hK hP hD hS 0 rfl rfl 0 (by decide) (hts _ fl_X12_107) (fun _ h9 => h9) rfl (by decide +kernel) rfl rfl (Nat.le_of_ble_eq_true rfl) dX12_drawn_2 (fun H locs hP hD hS => ?_)
  have hP : va_P G.1 vwCl [(a0, .inr (12, [.int 0, .int 0, .ref a1, .ref a2, .ref a3, .ref a4, .int 0, .ref a5, .int 0, .int 0, .int 0, .int 0, .long 0, .int (-1), .int 0, .int 0, .ref a6, .int 0, .ref a7, .ref a8, .int 0, .ref a9, .ref a10, .int 0, .int 0, .ref a11, .ref a12, .int 0, .ref a13, .ref a14, .int 0, .long 0, .long 0, .int 0, .int 0, .int 0, .int 0, .int 0, .ref a15, .int 0, .int 0, .ref a16, .int 0, .ref a17, .ref a18, .ref a19, .int 0, .ref a20, .ref a21, .long 0, .ref a22, .int 0]))] H := hP
  have hD : va_D A [(a0, .inr (12, [.int 0, .int 0, .ref a1, .ref a2, .ref a3, .ref a4, .int 0, .ref a5, .int 0, .int 0, .int 0, .int 0, .long 0, .int (-1), .int 0, .int 0, .ref a6, .int 0, .ref a7, .ref a8, .int 0, .ref a9, .ref a10, .int 0, .int 0, .ref a11, .ref a12, .int 0, .ref a13, .ref a14, .int 0, .long 0, .long 0, .int 0, .int 0, .int 0, .int 0, .int 0, .ref a15, .int 0, .int 0, .ref a16, .int 0, .ref a17, .ref a18, .ref a19, .int 0, .ref a20, .ref a21, .long 0, .ref a22, .int 0]))] := hD
  refine lv_aload_n hx hb dX12_drawn_5 rfl (lv_at hl 0 rfl) ?_
  refine va_get (D := G.1) (ci := 12) (v := .int 0) (C := RX12) (T := TX12) (N := 52) hx hb hts inG_X12 hown hK hP 0 rfl rfl 51 (by decide) (hts _ fl_X12_478) (fun _ h9 => h9) rfl dX12_drawn_6 ?_
  refine lv_if_eq (tgt := 28) hx hb dX12_drawn_9 (by decide) (fun c_1 => ?_) (fun c_1 => ?_)
  ·
    refine lv_iconst (v := (-1)) hx hb dX12_drawn_28 (by decide) ?_
    have hP := hP.sub (ws' := []) [] rfl
    have hD := hD.sub (ws' := []) [] (by decide) rfl
    exact W.iret (v := (-1)) hx hb hr (fun t ht hW => ⟨⟨(-1), [], rfl, ⟨rfl, rfl⟩, by rw [ht]; exact hP, hD⟩, hS.F ht⟩) hS.2.2 dX12_drawn_29
  ·
    exact absurd c_1 (by decide)
theorem dX12_back_0 : decode cX12_back 0 = .ok (.aload_n 0, 1) := by decide +kernel
theorem dX12_back_1 : decode cX12_back 1 = .ok (.iconst 0, 1) := by decide +kernel
theorem dX12_back_2 : decode cX12_back 2 = .ok (.putfield 107, 3) := by decide +kernel
theorem dX12_back_5 : decode cX12_back 5 = .ok (.iload_n 1, 1) := by decide +kernel
theorem dX12_back_6 : decode cX12_back 6 = .ok (.i2l, 1) := by decide +kernel
theorem dX12_back_7 : decode cX12_back 7 = .ok (.lconst 0, 1) := by decide +kernel
theorem dX12_back_8 : decode cX12_back 8 = .ok (.lconst 1, 1) := by decide +kernel
theorem dX12_back_9 : decode cX12_back 9 = .ok (.invokestatic 121, 3) := by decide +kernel
theorem dX12_back_12 : decode cX12_back 12 = .ok (.ifCond .ne 9, 3) := by decide +kernel
theorem dX12_back_15 : decode cX12_back 15 = .ok (.aload_n 0, 1) := by decide +kernel
theorem dX12_back_16 : decode cX12_back 16 = .ok (.iconst (-1), 1) := by decide +kernel
theorem dX12_back_17 : decode cX12_back 17 = .ok (.invokevirtual 125, 3) := by decide +kernel
theorem dX12_back_20 : decode cX12_back 20 = .ok (.ireturn, 1) := by decide +kernel
theorem dX12_back_21 : decode cX12_back 21 = .ok (.aload_n 0, 1) := by decide +kernel
theorem dX12_back_22 : decode cX12_back 22 = .ok (.getfield 19, 3) := by decide +kernel
theorem dX12_back_25 : decode cX12_back 25 = .ok (.iload_n 1, 1) := by decide +kernel
theorem dX12_back_26 : decode cX12_back 26 = .ok (.baload, 1) := by decide +kernel
theorem dX12_back_27 : decode cX12_back 27 = .ok (.ifCond .ne 10, 3) := by decide +kernel
theorem dX12_back_30 : decode cX12_back 30 = .ok (.aload_n 0, 1) := by decide +kernel
theorem dX12_back_31 : decode cX12_back 31 = .ok (.bipush (-2), 2) := by decide +kernel
theorem dX12_back_33 : decode cX12_back 33 = .ok (.invokevirtual 125, 3) := by decide +kernel
theorem dX12_back_36 : decode cX12_back 36 = .ok (.ireturn, 1) := by decide +kernel
theorem dX12_back_37 : decode cX12_back 37 = .ok (.iconst 0, 1) := by decide +kernel
theorem dX12_back_38 : decode cX12_back 38 = .ok (.istore_n 2, 1) := by decide +kernel
theorem dX12_back_39 : decode cX12_back 39 = .ok (.iload_n 2, 1) := by decide +kernel
theorem dX12_back_40 : decode cX12_back 40 = .ok (.sipush 5740, 3) := by decide +kernel
theorem dX12_back_43 : decode cX12_back 43 = .ok (.if_icmp .ge 27, 3) := by decide +kernel
theorem dX12_back_46 : decode cX12_back 46 = .ok (.aload_n 0, 1) := by decide +kernel
theorem dX12_back_47 : decode cX12_back 47 = .ok (.getfield 13, 3) := by decide +kernel
theorem dX12_back_50 : decode cX12_back 50 = .ok (.iload_n 2, 1) := by decide +kernel
theorem dX12_back_51 : decode cX12_back 51 = .ok (.aload_n 0, 1) := by decide +kernel
theorem dX12_back_52 : decode cX12_back 52 = .ok (.getfield 16, 3) := by decide +kernel
theorem dX12_back_55 : decode cX12_back 55 = .ok (.sipush 5740, 3) := by decide +kernel
theorem dX12_back_58 : decode cX12_back 58 = .ok (.iload_n 1, 1) := by decide +kernel
theorem dX12_back_59 : decode cX12_back 59 = .ok (.imul, 1) := by decide +kernel
theorem dX12_back_60 : decode cX12_back 60 = .ok (.iload_n 2, 1) := by decide +kernel
theorem dX12_back_61 : decode cX12_back 61 = .ok (.iadd, 1) := by decide +kernel
theorem dX12_back_62 : decode cX12_back 62 = .ok (.iaload, 1) := by decide +kernel
theorem dX12_back_63 : decode cX12_back 63 = .ok (.iastore, 1) := by decide +kernel
theorem dX12_back_64 : decode cX12_back 64 = .ok (.iinc 2 1, 3) := by decide +kernel
theorem dX12_back_67 : decode cX12_back 67 = .ok (.goto (-28), 3) := by decide +kernel
theorem dX12_back_70 : decode cX12_back 70 = .ok (.aload_n 0, 1) := by decide +kernel
theorem dX12_back_71 : decode cX12_back 71 = .ok (.iconst 0, 1) := by decide +kernel
theorem dX12_back_72 : decode cX12_back 72 = .ok (.invokevirtual 125, 3) := by decide +kernel
theorem dX12_back_75 : decode cX12_back 75 = .ok (.ireturn, 1) := by decide +kernel
set_option maxHeartbeats 4000000 in
set_option maxRecDepth 100000 in
theorem kX12_back (l : Launch) (G : g5_G) (a0 a1 a2 a3 a4 a5 a6 a7 a8 a9 a10 a11 a12 a13 a14 a15 a16 a17 a18 a19 a20 a21 a22 : Nat) (sz : Nat) (n0 : Int32) : Met l yX12_back (wsG yX12_back cX12_back 3 (some .int)) ({ frames := 1, cells := 0, slots := 0, locals := 25 }) (va_Pc [.ref a0, .int n0] (g5_P G [(a0, .inr (12, [.int 0, .int 0, .ref a1, .ref a2, .ref a3, .ref a4, .int 0, .ref a5, .int 0, .int 0, .int 0, .int 0, .long 0, .int (-1), .int 0, .int 0, .ref a6, .int 0, .ref a7, .ref a8, .int 0, .ref a9, .ref a10, .int 0, .int 0, .ref a11, .ref a12, .int 0, .ref a13, .ref a14, .int 0, .long 0, .long 0, .int 0, .int 0, .int 0, .int 0, .int 0, .ref a15, .int 0, .int 0, .ref a16, .int 0, .ref a17, .ref a18, .ref a19, .int 0, .ref a20, .ref a21, .long 0, .ref a22, .int 0])), (a1, .inl (G.2 0, 7, .inl (fun _ => 0))), (a4, .inl (G.2 2, 2, .inl (fun _ => 0)))] sz)) (va_Qi (fun (r : Int32) (u : va_W) => ((n0.toInt < 0 ∨ 1 < n0.toInt) ∧ (r = (-1)) ∧ (u = [])) ∨ ((0 ≤ n0.toInt ∧ n0.toInt ≤ 1) ∧ (r = (-2)) ∧ (u = []))) (g5_B G (va_A [(a0, .inr (12, [.int 0, .int 0, .ref a1, .ref a2, .ref a3, .ref a4, .int 0, .ref a5, .int 0, .int 0, .int 0, .int 0, .long 0, .int (-1), .int 0, .int 0, .ref a6, .int 0, .ref a7, .ref a8, .int 0, .ref a9, .ref a10, .int 0, .int 0, .ref a11, .ref a12, .int 0, .ref a13, .ref a14, .int 0, .long 0, .long 0, .int 0, .int 0, .int 0, .int 0, .int 0, .ref a15, .int 0, .int 0, .ref a16, .int 0, .ref a17, .ref a18, .ref a19, .int 0, .ref a20, .ref a21, .long 0, .ref a22, .int 0])), (a1, .inl (G.2 0, 7, .inl (fun _ => 0))), (a4, .inl (G.2 2, 2, .inl (fun _ => 0)))] sz)) (va_A [(a0, .inr (12, [.int 0, .int 0, .ref a1, .ref a2, .ref a3, .ref a4, .int 0, .ref a5, .int 0, .int 0, .int 0, .int 0, .long 0, .int (-1), .int 0, .int 0, .ref a6, .int 0, .ref a7, .ref a8, .int 0, .ref a9, .ref a10, .int 0, .int 0, .ref a11, .ref a12, .int 0, .ref a13, .ref a14, .int 0, .long 0, .long 0, .int 0, .int 0, .int 0, .int 0, .int 0, .ref a15, .int 0, .int 0, .ref a16, .int 0, .ref a17, .ref a18, .ref a19, .int 0, .ref a20, .ref a21, .long 0, .ref a22, .int 0])), (a1, .inl (G.2 0, 7, .inl (fun _ => 0))), (a4, .inl (G.2 2, 2, .inl (fun _ => 0)))] sz)) 0 0 (va_A [(a0, .inr (12, [.int 0, .int 0, .ref a1, .ref a2, .ref a3, .ref a4, .int 0, .ref a5, .int 0, .int 0, .int 0, .int 0, .long 0, .int (-1), .int 0, .int 0, .ref a6, .int 0, .ref a7, .ref a8, .int 0, .ref a9, .ref a10, .int 0, .int 0, .ref a11, .ref a12, .int 0, .ref a13, .ref a14, .int 0, .long 0, .long 0, .int 0, .int 0, .int 0, .int 0, .int 0, .ref a15, .int 0, .int 0, .ref a16, .int 0, .ref a17, .ref a18, .ref a19, .int 0, .ref a20, .ref a21, .long 0, .ref a22, .int 0])), (a1, .inl (G.2 0, 7, .inl (fun _ => 0))), (a4, .inl (G.2 2, 2, .inl (fun _ => 0)))] sz) := by
  refine Met.ofW (cc := cX12_back) (maxL := 3) (ret := (some .int)) (by decide) rfl ?_
  intro p e s m args below meth c s₁ B hml hv
  obtain ⟨rfl, hsz, hP, hK, hD0, hN, hT⟩ := hv
  have hx := B.exec
  have hb := B.bytes
  have hr := B.returns
  have hts : ∀ w ∈ tblG, w.before _ s = true := fun w h => atoms_spec (ws := (wsG yX12_back cX12_back 3 (some .int))) B.pre w (List.mem_cons_of_mem _ h)
  have hown : s.vm.findClass RX12 = some m.cls := findClass_of_methodNamed B.named
  have hlocks := B.notSynchronized
  subst hsz
  have hD := hD0.self (sz := s.heap.size)
  generalize hAe : va_A [(a0, .inr (12, [.int 0, .int 0, .ref a1, .ref a2, .ref a3, .ref a4, .int 0, .ref a5, .int 0, .int 0, .int 0, .int 0, .long 0, .int (-1), .int 0, .int 0, .ref a6, .int 0, .ref a7, .ref a8, .int 0, .ref a9, .ref a10, .int 0, .int 0, .ref a11, .ref a12, .int 0, .ref a13, .ref a14, .int 0, .long 0, .long 0, .int 0, .int 0, .int 0, .int 0, .int 0, .ref a15, .int 0, .int 0, .ref a16, .int 0, .ref a17, .ref a18, .ref a19, .int 0, .ref a20, .ref a21, .long 0, .ref a22, .int 0])), (a1, .inl (G.2 0, 7, .inl (fun _ => 0))), (a4, .inl (G.2 2, 2, .inl (fun _ => 0)))] s.heap.size = A at hD hT ⊢
  have hA : ∀ q : Nat, s.heap.size ≤ q → A q := fun q h => by rw [← hAe]; exact Or.inr h
  have hS : va_S A s.heap s.heap [] := va_S.rf
  have hP : va_P G.1 vwCl [(a0, .inr (12, [.int 0, .int 0, .ref a1, .ref a2, .ref a3, .ref a4, .int 0, .ref a5, .int 0, .int 0, .int 0, .int 0, .long 0, .int (-1), .int 0, .int 0, .ref a6, .int 0, .ref a7, .ref a8, .int 0, .ref a9, .ref a10, .int 0, .int 0, .ref a11, .ref a12, .int 0, .ref a13, .ref a14, .int 0, .long 0, .long 0, .int 0, .int 0, .int 0, .int 0, .int 0, .ref a15, .int 0, .int 0, .ref a16, .int 0, .ref a17, .ref a18, .ref a19, .int 0, .ref a20, .ref a21, .long 0, .ref a22, .int 0])), (a1, .inl (G.2 0, 7, .inl (fun _ => 0))), (a4, .inl (G.2 2, 2, .inl (fun _ => 0)))] s.heap := hP
  have hl := lv_entry ([.ref a0, .int n0]) (n := 3) (Nat.le_of_ble_eq_true rfl)
  rw [lg_entry_eq]
  generalize (lg_sl ([.ref a0, .int n0]) ++ List.replicate (3 - (lg_sl ([.ref a0, .int n0])).length) Slot.unset).toArray = ls at hl ⊢
  have hl : lv_has ls 3 [(0, .ref a0), (1, .int n0)] := hl
  refine lv_aload_n hx hb dX12_back_0 rfl (lv_at hl 0 rfl) ?_
  refine lv_iconst (v := 0) hx hb dX12_back_1 (by decide) ?_
  refine va_put (D := G.1) (ci := 12) (v := .int 0) (ty := .int) (C := RX12) (T := TX12) (N := 52) hx hb hts inG_X12 tyX12 tyX12_ok nmX12 hown hK hP hD hS 0 rfl rfl 0 (by decide) (hts _ fl_X12_107) (fun _ h9 => h9) rfl (by decide +kernel) rfl rfl (Nat.le_of_ble_eq_true rfl) dX12_back_2 (fun H locs hP hD hS => ?_)
  have hP : va_P G.1 vwCl [(a0, .inr (12, [.int 0, .int 0, .ref a1, .ref a2, .ref a3, .ref a4, .int 0, .ref a5, .int 0, .int 0, .int 0, .int 0, .long 0, .int (-1), .int 0, .int 0, .ref a6, .int 0, .ref a7, .ref a8, .int 0, .ref a9, .ref a10, .int 0, .int 0, .ref a11, .ref a12, .int 0, .ref a13, .ref a14, .int 0, .long 0, .long 0, .int 0, .int 0, .int 0, .int 0, .int 0, .ref a15, .int 0, .int 0, .ref a16, .int 0, .ref a17, .ref a18, .ref a19, .int 0, .ref a20, .ref a21, .long 0, .ref a22, .int 0])), (a1, .inl (G.2 0, 7, .inl (fun _ => 0))), (a4, .inl (G.2 2, 2, .inl (fun _ => 0)))] H := hP
  have hD : va_D A [(a0, .inr (12, [.int 0, .int 0, .ref a1, .ref a2, .ref a3, .ref a4, .int 0, .ref a5, .int 0, .int 0, .int 0, .int 0, .long 0, .int (-1), .int 0, .int 0, .ref a6, .int 0, .ref a7, .ref a8, .int 0, .ref a9, .ref a10, .int 0, .int 0, .ref a11, .ref a12, .int 0, .ref a13, .ref a14, .int 0, .long 0, .long 0, .int 0, .int 0, .int 0, .int 0, .int 0, .ref a15, .int 0, .int 0, .ref a16, .int 0, .ref a17, .ref a18, .ref a19, .int 0, .ref a20, .ref a21, .long 0, .ref a22, .int 0])), (a1, .inl (G.2 0, 7, .inl (fun _ => 0))), (a4, .inl (G.2 2, 2, .inl (fun _ => 0)))] := hD
  refine lv_iload_n hx hb dX12_back_5 rfl (lv_at hl 1 rfl) ?_
  refine lv_i2l (v := n0.toInt64) hx hb dX12_back_6 rfl ?_
  refine lv_lconst (v := 0) hx hb dX12_back_7 (by decide) ?_
  refine lv_lconst (v := 1) hx hb dX12_back_8 (by decide) ?_
  have hPc := hP.sub (ws' := []) [] rfl
  have hDc := hD.sub (ws' := []) [] (by decide) rfl
  have hFc := va_free (wc := []) hD hS hA [] rfl
  refine va_calli (va_runS (As := [.long n0.toInt64, .long 0, .long 1]) (rest := []) ⟨hx, hb, hml, hown, hts⟩ (k_in_0_1 l G H.size n0) (va_cwS 3 hts gS_X12_121 rfl rfl rfl hs_X12_in ⟨Nat.le_of_ble_eq_true rfl, Nat.le_of_ble_eq_true rfl⟩) (g5_preS hPc hK hDc hN hT hS hFc) rfl rfl hl.1 rfl (lv_room (Nat.le_of_ble_eq_true rfl)) dX12_back_9 ⟨Nat.le_of_ble_eq_true rfl, Nat.le_of_ble_eq_true rfl⟩) hS (fun q _ h => hFc q h) hFc (fun r u t H1 locs ht hvm hw hB hz1 hk1 hS => ?_)
  obtain ⟨hP1, hD1⟩ := hB
  rw [ht] at hP1
  rcases hw with ⟨i_1, rfl, rfl⟩ | ⟨i_2, rfl, rfl⟩
  ·
    have i_1 : n0.toInt < 0 ∨ 1 < n0.toInt := i_1
    have hP := g5_same hP hk1
    generalize H1 = H at hP hS ⊢
    refine lv_if_ne (tgt := 21) hx hb dX12_back_12 (by decide) (fun c_3 => ?_) (fun c_3 => ?_)
    ·
      exact absurd c_3 (by decide)
    ·
      refine lv_aload_n hx hb dX12_back_15 rfl (lv_at hl 0 rfl) ?_
      refine lv_iconst (v := (-1)) hx hb dX12_back_16 (by decide) ?_
      have hPc := hP.sub (ws' := [(a0, .inr (12, [.int 0, .int 0, .ref a1, .ref a2, .ref a3, .ref a4, .int 0, .ref a5, .int 0, .int 0, .int 0, .int 0, .long 0, .int (-1), .int 0, .int 0, .ref a6, .int 0, .ref a7, .ref a8, .int 0, .ref a9, .ref a10, .int 0, .int 0, .ref a11, .ref a12, .int 0, .ref a13, .ref a14, .int 0, .long 0, .long 0, .int 0, .int 0, .int 0, .int 0, .int 0, .ref a15, .int 0, .int 0, .ref a16, .int 0, .ref a17, .ref a18, .ref a19, .int 0, .ref a20, .ref a21, .long 0, .ref a22, .int 0])), (a1, .inl (G.2 0, 7, .inl (fun _ => 0)))]) [0, 1] rfl
      have hDc := hD.sub (ws' := [(a0, .inr (12, [.int 0, .int 0, .ref a1, .ref a2, .ref a3, .ref a4, .int 0, .ref a5, .int 0, .int 0, .int 0, .int 0, .long 0, .int (-1), .int 0, .int 0, .ref a6, .int 0, .ref a7, .ref a8, .int 0, .ref a9, .ref a10, .int 0, .int 0, .ref a11, .ref a12, .int 0, .ref a13, .ref a14, .int 0, .long 0, .long 0, .int 0, .int 0, .int 0, .int 0, .int 0, .ref a15, .int 0, .int 0, .ref a16, .int 0, .ref a17, .ref a18, .ref a19, .int 0, .ref a20, .ref a21, .long 0, .ref a22, .int 0])), (a1, .inl (G.2 0, 7, .inl (fun _ => 0)))]) [0, 1] (by decide) rfl
      have hFc := va_free (wc := [(a0, .inr (12, [.int 0, .int 0, .ref a1, .ref a2, .ref a3, .ref a4, .int 0, .ref a5, .int 0, .int 0, .int 0, .int 0, .long 0, .int (-1), .int 0, .int 0, .ref a6, .int 0, .ref a7, .ref a8, .int 0, .ref a9, .ref a10, .int 0, .int 0, .ref a11, .ref a12, .int 0, .ref a13, .ref a14, .int 0, .long 0, .long 0, .int 0, .int 0, .int 0, .int 0, .int 0, .ref a15, .int 0, .int 0, .ref a16, .int 0, .ref a17, .ref a18, .ref a19, .int 0, .ref a20, .ref a21, .long 0, .ref a22, .int 0])), (a1, .inl (G.2 0, 7, .inl (fun _ => 0)))]) hD hS hA [0, 1] rfl
      refine va_calli (va_runV (As := [.int (-1)]) (rest := []) ⟨hx, hb, hml, hown, hts⟩ (kX12_tell l G a0 a1 a2 a3 a4 a5 a6 a7 a8 a9 a10 a11 a12 a13 a14 a15 a16 a17 a18 a19 a20 a21 a22 H.size) (cwV 1 hts gV_X12_125 rfl rfl rfl hv_X12_tell ⟨Nat.le_of_ble_eq_true rfl, Nat.le_of_ble_eq_true rfl⟩) (g5_preV hPc hK hDc hN hT hS hFc (ci := 12) (q0 := 0) rfl rfl) rfl rfl hl.1 rfl (lv_room (Nat.le_of_ble_eq_true rfl)) dX12_back_17 ⟨Nat.le_of_ble_eq_true rfl, Nat.le_of_ble_eq_true rfl⟩) hS (fun q _ h => hFc q h) hFc (fun r u t H1 locs ht hvm hw hB hz1 hk1 hS => ?_)
      obtain ⟨hP1, hD1⟩ := hB
      rw [ht] at hP1
      obtain ⟨rfl, rfl⟩ := hw
      obtain ⟨hP, hD⟩ := va_join (wr := [(a4, .inl (G.2 2, 2, .inl (fun _ => 0)))]) (w1 := [(a0, .inr (12, [.int 0, .int (-1), .ref a1, .ref a2, .ref a3, .ref a4, .int 0, .ref a5, .int 0, .int 0, .int 0, .int 0, .long 0, .int (-1), .int 0, .int 0, .ref a6, .int 0, .ref a7, .ref a8, .int 0, .ref a9, .ref a10, .int 0, .int 0, .ref a11, .ref a12, .int 0, .ref a13, .ref a14, .int 0, .long 0, .long 0, .int 0, .int 0, .int 0, .int 0, .int 0, .ref a15, .int 0, .int 0, .ref a16, .int 0, .ref a17, .ref a18, .ref a19, .int 0, .ref a20, .ref a21, .long 0, .ref a22, .int 0])), (a1, .inl (G.2 0, 7, .inl (upd (fun _ => 0) 1 1)))]) hP hD [0, 1] [2] rfl rfl (by decide) (by decide) hk1 hFc hP1 hD1
      generalize H1 = H at hP hS ⊢
      have hP : va_P G.1 vwCl [(a4, .inl (G.2 2, 2, .inl (fun _ => 0))), (a0, .inr (12, [.int 0, .int (-1), .ref a1, .ref a2, .ref a3, .ref a4, .int 0, .ref a5, .int 0, .int 0, .int 0, .int 0, .long 0, .int (-1), .int 0, .int 0, .ref a6, .int 0, .ref a7, .ref a8, .int 0, .ref a9, .ref a10, .int 0, .int 0, .ref a11, .ref a12, .int 0, .ref a13, .ref a14, .int 0, .long 0, .long 0, .int 0, .int 0, .int 0, .int 0, .int 0, .ref a15, .int 0, .int 0, .ref a16, .int 0, .ref a17, .ref a18, .ref a19, .int 0, .ref a20, .ref a21, .long 0, .ref a22, .int 0])), (a1, .inl (G.2 0, 7, .inl (upd (fun _ => 0) 1 1)))] H := hP
      have hD : va_D A [(a4, .inl (G.2 2, 2, .inl (fun _ => 0))), (a0, .inr (12, [.int 0, .int (-1), .ref a1, .ref a2, .ref a3, .ref a4, .int 0, .ref a5, .int 0, .int 0, .int 0, .int 0, .long 0, .int (-1), .int 0, .int 0, .ref a6, .int 0, .ref a7, .ref a8, .int 0, .ref a9, .ref a10, .int 0, .int 0, .ref a11, .ref a12, .int 0, .ref a13, .ref a14, .int 0, .long 0, .long 0, .int 0, .int 0, .int 0, .int 0, .int 0, .ref a15, .int 0, .int 0, .ref a16, .int 0, .ref a17, .ref a18, .ref a19, .int 0, .ref a20, .ref a21, .long 0, .ref a22, .int 0])), (a1, .inl (G.2 0, 7, .inl (upd (fun _ => 0) 1 1)))] := hD
      have hP := hP.sub (ws' := []) [] rfl
      have hD := hD.sub (ws' := []) [] (by decide) rfl
      exact W.iret (v := (-1)) hx hb hr (fun t ht hW => ⟨⟨(-1), [], rfl, Or.inl (⟨i_1, rfl, rfl⟩), by rw [ht]; exact hP, hD⟩, hS.F ht⟩) hS.2.2 dX12_back_20
  ·
    have i_2 : 0 ≤ n0.toInt ∧ n0.toInt ≤ 1 := i_2
    have hP := g5_same hP hk1
    generalize H1 = H at hP hS ⊢
    refine lv_if_ne (tgt := 21) hx hb dX12_back_12 (by decide) (fun c_4 => ?_) (fun c_4 => ?_)
    ·
      refine lv_aload_n hx hb dX12_back_21 rfl (lv_at hl 0 rfl) ?_
      refine va_get (D := G.1) (ci := 12) (v := .ref a4) (C := RX12) (T := TX12) (N := 52) hx hb hts inG_X12 hown hK hP 0 rfl rfl 5 (by decide) (hts _ fl_X12_19) (fun _ h9 => h9) rfl dX12_back_22 ?_
      refine lv_iload_n hx hb dX12_back_25 rfl (lv_at hl 1 rfl) ?_
      refine va_zald hx hb hK hP 2 2 rfl rfl (i := n0) (vp_in_iff.mpr ⟨by omega, by omega⟩) dX12_back_26 ?_
      refine g5_ti (v := 0) rfl ?_
      refine lv_if_ne (tgt := 37) hx hb dX12_back_27 (by decide) (fun c_5 => ?_) (fun c_5 => ?_)
      ·
        exact absurd c_5 (by decide)
      ·
        refine lv_aload_n hx hb dX12_back_30 rfl (lv_at hl 0 rfl) ?_
        refine lv_bipush (v := (-2)) hx hb dX12_back_31 (by decide) ?_
        have hPc := hP.sub (ws' := [(a0, .inr (12, [.int 0, .int 0, .ref a1, .ref a2, .ref a3, .ref a4, .int 0, .ref a5, .int 0, .int 0, .int 0, .int 0, .long 0, .int (-1), .int 0, .int 0, .ref a6, .int 0, .ref a7, .ref a8, .int 0, .ref a9, .ref a10, .int 0, .int 0, .ref a11, .ref a12, .int 0, .ref a13, .ref a14, .int 0, .long 0, .long 0, .int 0, .int 0, .int 0, .int 0, .int 0, .ref a15, .int 0, .int 0, .ref a16, .int 0, .ref a17, .ref a18, .ref a19, .int 0, .ref a20, .ref a21, .long 0, .ref a22, .int 0])), (a1, .inl (G.2 0, 7, .inl (fun _ => 0)))]) [0, 1] rfl
        have hDc := hD.sub (ws' := [(a0, .inr (12, [.int 0, .int 0, .ref a1, .ref a2, .ref a3, .ref a4, .int 0, .ref a5, .int 0, .int 0, .int 0, .int 0, .long 0, .int (-1), .int 0, .int 0, .ref a6, .int 0, .ref a7, .ref a8, .int 0, .ref a9, .ref a10, .int 0, .int 0, .ref a11, .ref a12, .int 0, .ref a13, .ref a14, .int 0, .long 0, .long 0, .int 0, .int 0, .int 0, .int 0, .int 0, .ref a15, .int 0, .int 0, .ref a16, .int 0, .ref a17, .ref a18, .ref a19, .int 0, .ref a20, .ref a21, .long 0, .ref a22, .int 0])), (a1, .inl (G.2 0, 7, .inl (fun _ => 0)))]) [0, 1] (by decide) rfl
        have hFc := va_free (wc := [(a0, .inr (12, [.int 0, .int 0, .ref a1, .ref a2, .ref a3, .ref a4, .int 0, .ref a5, .int 0, .int 0, .int 0, .int 0, .long 0, .int (-1), .int 0, .int 0, .ref a6, .int 0, .ref a7, .ref a8, .int 0, .ref a9, .ref a10, .int 0, .int 0, .ref a11, .ref a12, .int 0, .ref a13, .ref a14, .int 0, .long 0, .long 0, .int 0, .int 0, .int 0, .int 0, .int 0, .ref a15, .int 0, .int 0, .ref a16, .int 0, .ref a17, .ref a18, .ref a19, .int 0, .ref a20, .ref a21, .long 0, .ref a22, .int 0])), (a1, .inl (G.2 0, 7, .inl (fun _ => 0)))]) hD hS hA [0, 1] rfl
        refine va_calli (va_runV (As := [.int (-2)]) (rest := []) ⟨hx, hb, hml, hown, hts⟩ (kX12_tell_4 l G a0 a1 a2 a3 a4 a5 a6 a7 a8 a9 a10 a11 a12 a13 a14 a15 a16 a17 a18 a19 a20 a21 a22 H.size) (cwV 1 hts gV_X12_125 rfl rfl rfl hv_X12_tell ⟨Nat.le_of_ble_eq_true rfl, Nat.le_of_ble_eq_true rfl⟩) (g5_preV hPc hK hDc hN hT hS hFc (ci := 12) (q0 := 0) rfl rfl) rfl rfl hl.1 rfl (lv_room (Nat.le_of_ble_eq_true rfl)) dX12_back_33 ⟨Nat.le_of_ble_eq_true rfl, Nat.le_of_ble_eq_true rfl⟩) hS (fun q _ h => hFc q h) hFc (fun r u t H1 locs ht hvm hw hB hz1 hk1 hS => ?_)
        obtain ⟨hP1, hD1⟩ := hB
        rw [ht] at hP1
        obtain ⟨rfl, rfl⟩ := hw
        obtain ⟨hP, hD⟩ := va_join (wr := [(a4, .inl (G.2 2, 2, .inl (fun _ => 0)))]) (w1 := [(a0, .inr (12, [.int 0, .int (-2), .ref a1, .ref a2, .ref a3, .ref a4, .int 0, .ref a5, .int 0, .int 0, .int 0, .int 0, .long 0, .int (-1), .int 0, .int 0, .ref a6, .int 0, .ref a7, .ref a8, .int 0, .ref a9, .ref a10, .int 0, .int 0, .ref a11, .ref a12, .int 0, .ref a13, .ref a14, .int 0, .long 0, .long 0, .int 0, .int 0, .int 0, .int 0, .int 0, .ref a15, .int 0, .int 0, .ref a16, .int 0, .ref a17, .ref a18, .ref a19, .int 0, .ref a20, .ref a21, .long 0, .ref a22, .int 0])), (a1, .inl (G.2 0, 7, .inl (upd (fun _ => 0) 2 1)))]) hP hD [0, 1] [2] rfl rfl (by decide) (by decide) hk1 hFc hP1 hD1
        generalize H1 = H at hP hS ⊢
        have hP : va_P G.1 vwCl [(a4, .inl (G.2 2, 2, .inl (fun _ => 0))), (a0, .inr (12, [.int 0, .int (-2), .ref a1, .ref a2, .ref a3, .ref a4, .int 0, .ref a5, .int 0, .int 0, .int 0, .int 0, .long 0, .int (-1), .int 0, .int 0, .ref a6, .int 0, .ref a7, .ref a8, .int 0, .ref a9, .ref a10, .int 0, .int 0, .ref a11, .ref a12, .int 0, .ref a13, .ref a14, .int 0, .long 0, .long 0, .int 0, .int 0, .int 0, .int 0, .int 0, .ref a15, .int 0, .int 0, .ref a16, .int 0, .ref a17, .ref a18, .ref a19, .int 0, .ref a20, .ref a21, .long 0, .ref a22, .int 0])), (a1, .inl (G.2 0, 7, .inl (upd (fun _ => 0) 2 1)))] H := hP
        have hD : va_D A [(a4, .inl (G.2 2, 2, .inl (fun _ => 0))), (a0, .inr (12, [.int 0, .int (-2), .ref a1, .ref a2, .ref a3, .ref a4, .int 0, .ref a5, .int 0, .int 0, .int 0, .int 0, .long 0, .int (-1), .int 0, .int 0, .ref a6, .int 0, .ref a7, .ref a8, .int 0, .ref a9, .ref a10, .int 0, .int 0, .ref a11, .ref a12, .int 0, .ref a13, .ref a14, .int 0, .long 0, .long 0, .int 0, .int 0, .int 0, .int 0, .int 0, .ref a15, .int 0, .int 0, .ref a16, .int 0, .ref a17, .ref a18, .ref a19, .int 0, .ref a20, .ref a21, .long 0, .ref a22, .int 0])), (a1, .inl (G.2 0, 7, .inl (upd (fun _ => 0) 2 1)))] := hD
        have hP := hP.sub (ws' := []) [] rfl
        have hD := hD.sub (ws' := []) [] (by decide) rfl
        exact W.iret (v := (-2)) hx hb hr (fun t ht hW => ⟨⟨(-2), [], rfl, Or.inr (⟨i_2, rfl, rfl⟩), by rw [ht]; exact hP, hD⟩, hS.F ht⟩) hS.2.2 dX12_back_36
    ·
      exact absurd c_4 (by decide)
theorem dX12_count_0 : decode cX12_count 0 = .ok (.aload_n 0, 1) := by decide +kernel
theorem dX12_count_1 : decode cX12_count 1 = .ok (.iconst 0, 1) := by decide +kernel
theorem dX12_count_2 : decode cX12_count 2 = .ok (.putfield 107, 3) := by decide +kernel
theorem dX12_count_5 : decode cX12_count 5 = .ok (.iconst 0, 1) := by decide +kernel
theorem dX12_count_6 : decode cX12_count 6 = .ok (.istore_n 2, 1) := by decide +kernel
theorem dX12_count_7 : decode cX12_count 7 = .ok (.iconst 0, 1) := by decide +kernel
theorem dX12_count_8 : decode cX12_count 8 = .ok (.istore_n 3, 1) := by decide +kernel
theorem dX12_count_9 : decode cX12_count 9 = .ok (.iload_n 3, 1) := by decide +kernel
theorem dX12_count_10 : decode cX12_count 10 = .ok (.bipush 64, 2) := by decide +kernel
theorem dX12_count_12 : decode cX12_count 12 = .ok (.if_icmp .ge 21, 3) := by decide +kernel
theorem dX12_count_15 : decode cX12_count 15 = .ok (.iload_n 2, 1) := by decide +kernel
theorem dX12_count_16 : decode cX12_count 16 = .ok (.aload_n 0, 1) := by decide +kernel
theorem dX12_count_17 : decode cX12_count 17 = .ok (.getfield 13, 3) := by decide +kernel
theorem dX12_count_20 : decode cX12_count 20 = .ok (.bipush 10, 2) := by decide +kernel
theorem dX12_count_22 : decode cX12_count 22 = .ok (.iload_n 3, 1) := by decide +kernel
theorem dX12_count_23 : decode cX12_count 23 = .ok (.iadd, 1) := by decide +kernel
theorem dX12_count_24 : decode cX12_count 24 = .ok (.iaload, 1) := by decide +kernel
theorem dX12_count_25 : decode cX12_count 25 = .ok (.iadd, 1) := by decide +kernel
theorem dX12_count_26 : decode cX12_count 26 = .ok (.istore_n 2, 1) := by decide +kernel
theorem dX12_count_27 : decode cX12_count 27 = .ok (.iinc 3 1, 3) := by decide +kernel
theorem dX12_count_30 : decode cX12_count 30 = .ok (.goto (-21), 3) := by decide +kernel
theorem dX12_count_33 : decode cX12_count 33 = .ok (.iload_n 1, 1) := by decide +kernel
theorem dX12_count_34 : decode cX12_count 34 = .ok (.tableswitch 164 0 13 #[70, 77, 84, 91, 98, 106, 114, 116, 121, 128, 135, 142, 149, 157], 70) := by decide +kernel
theorem dX12_count_104 : decode cX12_count 104 = .ok (.aload_n 0, 1) := by decide +kernel
theorem dX12_count_105 : decode cX12_count 105 = .ok (.getfield 13, 3) := by decide +kernel
theorem dX12_count_108 : decode cX12_count 108 = .ok (.iconst 0, 1) := by decide +kernel
theorem dX12_count_109 : decode cX12_count 109 = .ok (.iaload, 1) := by decide +kernel
theorem dX12_count_110 : decode cX12_count 110 = .ok (.ireturn, 1) := by decide +kernel
theorem dX12_count_111 : decode cX12_count 111 = .ok (.aload_n 0, 1) := by decide +kernel
theorem dX12_count_112 : decode cX12_count 112 = .ok (.getfield 13, 3) := by decide +kernel
theorem dX12_count_115 : decode cX12_count 115 = .ok (.iconst 1, 1) := by decide +kernel
theorem dX12_count_116 : decode cX12_count 116 = .ok (.iaload, 1) := by decide +kernel
theorem dX12_count_117 : decode cX12_count 117 = .ok (.ireturn, 1) := by decide +kernel
theorem dX12_count_118 : decode cX12_count 118 = .ok (.aload_n 0, 1) := by decide +kernel
theorem dX12_count_119 : decode cX12_count 119 = .ok (.getfield 13, 3) := by decide +kernel
theorem dX12_count_122 : decode cX12_count 122 = .ok (.iconst 2, 1) := by decide +kernel
theorem dX12_count_123 : decode cX12_count 123 = .ok (.iaload, 1) := by decide +kernel
theorem dX12_count_124 : decode cX12_count 124 = .ok (.ireturn, 1) := by decide +kernel
theorem dX12_count_125 : decode cX12_count 125 = .ok (.aload_n 0, 1) := by decide +kernel
theorem dX12_count_126 : decode cX12_count 126 = .ok (.getfield 13, 3) := by decide +kernel
theorem dX12_count_129 : decode cX12_count 129 = .ok (.iconst 5, 1) := by decide +kernel
theorem dX12_count_130 : decode cX12_count 130 = .ok (.iaload, 1) := by decide +kernel
theorem dX12_count_131 : decode cX12_count 131 = .ok (.ireturn, 1) := by decide +kernel
theorem dX12_count_132 : decode cX12_count 132 = .ok (.aload_n 0, 1) := by decide +kernel
theorem dX12_count_133 : decode cX12_count 133 = .ok (.getfield 13, 3) := by decide +kernel
theorem dX12_count_136 : decode cX12_count 136 = .ok (.bipush 7, 2) := by decide +kernel
theorem dX12_count_138 : decode cX12_count 138 = .ok (.iaload, 1) := by decide +kernel
theorem dX12_count_139 : decode cX12_count 139 = .ok (.ireturn, 1) := by decide +kernel
theorem dX12_count_140 : decode cX12_count 140 = .ok (.aload_n 0, 1) := by decide +kernel
theorem dX12_count_141 : decode cX12_count 141 = .ok (.getfield 13, 3) := by decide +kernel
theorem dX12_count_144 : decode cX12_count 144 = .ok (.bipush 8, 2) := by decide +kernel
theorem dX12_count_146 : decode cX12_count 146 = .ok (.iaload, 1) := by decide +kernel
theorem dX12_count_147 : decode cX12_count 147 = .ok (.ireturn, 1) := by decide +kernel
theorem dX12_count_148 : decode cX12_count 148 = .ok (.iload_n 2, 1) := by decide +kernel
theorem dX12_count_149 : decode cX12_count 149 = .ok (.ireturn, 1) := by decide +kernel
theorem dX12_count_150 : decode cX12_count 150 = .ok (.aload_n 0, 1) := by decide +kernel
theorem dX12_count_151 : decode cX12_count 151 = .ok (.getfield 192, 3) := by decide +kernel
theorem dX12_count_154 : decode cX12_count 154 = .ok (.ireturn, 1) := by decide +kernel
theorem dX12_count_155 : decode cX12_count 155 = .ok (.aload_n 0, 1) := by decide +kernel
theorem dX12_count_156 : decode cX12_count 156 = .ok (.getfield 7, 3) := by decide +kernel
theorem dX12_count_159 : decode cX12_count 159 = .ok (.iconst 1, 1) := by decide +kernel
theorem dX12_count_160 : decode cX12_count 160 = .ok (.iaload, 1) := by decide +kernel
theorem dX12_count_161 : decode cX12_count 161 = .ok (.ireturn, 1) := by decide +kernel
theorem dX12_count_162 : decode cX12_count 162 = .ok (.aload_n 0, 1) := by decide +kernel
theorem dX12_count_163 : decode cX12_count 163 = .ok (.getfield 7, 3) := by decide +kernel
theorem dX12_count_166 : decode cX12_count 166 = .ok (.iconst 2, 1) := by decide +kernel
theorem dX12_count_167 : decode cX12_count 167 = .ok (.iaload, 1) := by decide +kernel
theorem dX12_count_168 : decode cX12_count 168 = .ok (.ireturn, 1) := by decide +kernel
theorem dX12_count_169 : decode cX12_count 169 = .ok (.aload_n 0, 1) := by decide +kernel
theorem dX12_count_170 : decode cX12_count 170 = .ok (.getfield 7, 3) := by decide +kernel
theorem dX12_count_173 : decode cX12_count 173 = .ok (.iconst 3, 1) := by decide +kernel
theorem dX12_count_174 : decode cX12_count 174 = .ok (.iaload, 1) := by decide +kernel
theorem dX12_count_175 : decode cX12_count 175 = .ok (.ireturn, 1) := by decide +kernel
theorem dX12_count_176 : decode cX12_count 176 = .ok (.aload_n 0, 1) := by decide +kernel
theorem dX12_count_177 : decode cX12_count 177 = .ok (.getfield 7, 3) := by decide +kernel
theorem dX12_count_180 : decode cX12_count 180 = .ok (.iconst 5, 1) := by decide +kernel
theorem dX12_count_181 : decode cX12_count 181 = .ok (.iaload, 1) := by decide +kernel
theorem dX12_count_182 : decode cX12_count 182 = .ok (.ireturn, 1) := by decide +kernel
theorem dX12_count_183 : decode cX12_count 183 = .ok (.aload_n 0, 1) := by decide +kernel
theorem dX12_count_184 : decode cX12_count 184 = .ok (.getfield 7, 3) := by decide +kernel
theorem dX12_count_187 : decode cX12_count 187 = .ok (.bipush 6, 2) := by decide +kernel
theorem dX12_count_189 : decode cX12_count 189 = .ok (.iaload, 1) := by decide +kernel
theorem dX12_count_190 : decode cX12_count 190 = .ok (.ireturn, 1) := by decide +kernel
theorem dX12_count_191 : decode cX12_count 191 = .ok (.aload_n 0, 1) := by decide +kernel
theorem dX12_count_192 : decode cX12_count 192 = .ok (.getfield 13, 3) := by decide +kernel
theorem dX12_count_195 : decode cX12_count 195 = .ok (.iconst 3, 1) := by decide +kernel
theorem dX12_count_196 : decode cX12_count 196 = .ok (.iaload, 1) := by decide +kernel
theorem dX12_count_197 : decode cX12_count 197 = .ok (.ireturn, 1) := by decide +kernel
theorem dX12_count_198 : decode cX12_count 198 = .ok (.iconst (-1), 1) := by decide +kernel
theorem dX12_count_199 : decode cX12_count 199 = .ok (.ireturn, 1) := by decide +kernel
