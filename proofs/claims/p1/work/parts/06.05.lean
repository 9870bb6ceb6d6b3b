set_option maxHeartbeats 4000000 in
set_option maxRecDepth 100000 in
theorem kX12_turn (l : Launch) (G : g5_G) (a0 a1 a2 a3 a4 a5 a6 a7 a8 a9 a10 a11 a12 a13 a14 a15 a16 a17 a18 a19 a20 a21 a22 : Nat) (sz : Nat) (n0 : Int32) (n1 : Int32) (n2 : Int32) : Met l yX12_turn (wsG yX12_turn cX12_turn 4 (some .int)) ({ frames := 2, cells := 0, slots := 0, locals := 46 }) (va_Pc [.ref a0, .int n0, .int n1, .int n2] (g5_P G [(a0, .inr (12, [.int 0, .int 0, .ref a1, .ref a2, .ref a3, .ref a4, .int 0, .ref a5, .int 0, .int 0, .int 0, .int 0, .long 0, .int (-1), .int 0, .int 0, .ref a6, .int 0, .ref a7, .ref a8, .int 0, .ref a9, .ref a10, .int 0, .int 0, .ref a11, .ref a12, .int 0, .ref a13, .ref a14, .int 0, .long 0, .long 0, .int 0, .int 0, .int 0, .int 0, .int 0, .ref a15, .int 0, .int 0, .ref a16, .int 0, .ref a17, .ref a18, .ref a19, .int 0, .ref a20, .ref a21, .long 0, .ref a22, .int 0])), (a1, .inl (G.2 0, 7, .inl (fun _ => 0))), (a2, .inl (G.2 0, 5740, .inl (upd (upd (upd (fun _ => 0) 3 (-1)) 4 1000) 6 (-1))))] sz)) (va_Qi (fun (r : Int32) (u : va_W) => ((n1.toInt = 0) ∧ (n2.toInt < 0 ∨ 5 < n2.toInt) ∧ (r = (-1)) ∧ (u = [])) ∨ ((n1.toInt = 0) ∧ (0 ≤ n2.toInt ∧ n2.toInt ≤ 5) ∧ (n0.toInt < 0 ∨ (-1) < n0.toInt) ∧ (r = (-2)) ∧ (u = [])) ∨ ((n1.toInt = 1) ∧ (n2.toInt < 0 ∨ 23 < n2.toInt) ∧ (r = (-1)) ∧ (u = [])) ∨ ((n1.toInt = 1) ∧ (0 ≤ n2.toInt ∧ n2.toInt ≤ 23) ∧ (n0.toInt < 0 ∨ (-1) < n0.toInt) ∧ (r = (-2)) ∧ (u = [])) ∨ ((n1.toInt = 2) ∧ (n2.toInt < 0 ∨ 10 < n2.toInt) ∧ (r = (-1)) ∧ (u = [])) ∨ ((n1.toInt = 2) ∧ (0 ≤ n2.toInt ∧ n2.toInt ≤ 10) ∧ (n0.toInt < 0 ∨ (-1) < n0.toInt) ∧ (r = (-2)) ∧ (u = [])) ∨ ((n1.toInt = 3) ∧ (n2.toInt < 0 ∨ 16777215 < n2.toInt) ∧ (r = (-1)) ∧ (u = [])) ∨ ((n1.toInt = 3) ∧ (0 ≤ n2.toInt ∧ n2.toInt ≤ 16777215) ∧ (n0.toInt < 0 ∨ (-1) < n0.toInt) ∧ (r = (-2)) ∧ (u = [])) ∨ ((n1.toInt < 0) ∧ (r = (-1)) ∧ (u = [])) ∨ ((n1.toInt > 3) ∧ (r = (-1)) ∧ (u = []))) (g5_B G (va_A [(a0, .inr (12, [.int 0, .int 0, .ref a1, .ref a2, .ref a3, .ref a4, .int 0, .ref a5, .int 0, .int 0, .int 0, .int 0, .long 0, .int (-1), .int 0, .int 0, .ref a6, .int 0, .ref a7, .ref a8, .int 0, .ref a9, .ref a10, .int 0, .int 0, .ref a11, .ref a12, .int 0, .ref a13, .ref a14, .int 0, .long 0, .long 0, .int 0, .int 0, .int 0, .int 0, .int 0, .ref a15, .int 0, .int 0, .ref a16, .int 0, .ref a17, .ref a18, .ref a19, .int 0, .ref a20, .ref a21, .long 0, .ref a22, .int 0])), (a1, .inl (G.2 0, 7, .inl (fun _ => 0))), (a2, .inl (G.2 0, 5740, .inl (upd (upd (upd (fun _ => 0) 3 (-1)) 4 1000) 6 (-1))))] sz)) (va_A [(a0, .inr (12, [.int 0, .int 0, .ref a1, .ref a2, .ref a3, .ref a4, .int 0, .ref a5, .int 0, .int 0, .int 0, .int 0, .long 0, .int (-1), .int 0, .int 0, .ref a6, .int 0, .ref a7, .ref a8, .int 0, .ref a9, .ref a10, .int 0, .int 0, .ref a11, .ref a12, .int 0, .ref a13, .ref a14, .int 0, .long 0, .long 0, .int 0, .int 0, .int 0, .int 0, .int 0, .ref a15, .int 0, .int 0, .ref a16, .int 0, .ref a17, .ref a18, .ref a19, .int 0, .ref a20, .ref a21, .long 0, .ref a22, .int 0])), (a1, .inl (G.2 0, 7, .inl (fun _ => 0))), (a2, .inl (G.2 0, 5740, .inl (upd (upd (upd (fun _ => 0) 3 (-1)) 4 1000) 6 (-1))))] sz)) 0 0 (va_A [(a0, .inr (12, [.int 0, .int 0, .ref a1, .ref a2, .ref a3, .ref a4, .int 0, .ref a5, .int 0, .int 0, .int 0, .int 0, .long 0, .int (-1), .int 0, .int 0, .ref a6, .int 0, .ref a7, .ref a8, .int 0, .ref a9, .ref a10, .int 0, .int 0, .ref a11, .ref a12, .int 0, .ref a13, .ref a14, .int 0, .long 0, .long 0, .int 0, .int 0, .int 0, .int 0, .int 0, .ref a15, .int 0, .int 0, .ref a16, .int 0, .ref a17, .ref a18, .ref a19, .int 0, .ref a20, .ref a21, .long 0, .ref a22, .int 0])), (a1, .inl (G.2 0, 7, .inl (fun _ => 0))), (a2, .inl (G.2 0, 5740, .inl (upd (upd (upd (fun _ => 0) 3 (-1)) 4 1000) 6 (-1))))] sz) := by
  refine Met.ofW (cc := cX12_turn) (maxL := 4) (ret := (some .int)) (by decide) rfl ?_
  intro p e s m args below meth c s₁ B hml hv
  obtain ⟨rfl, hsz, hP, hK, hD0, hN, hT⟩ := hv
  have hx := B.exec
  have hb := B.bytes
  have hr := B.returns
  have hts : ∀ w ∈ tblG, w.before _ s = true := fun w h => atoms_spec (ws := (wsG yX12_turn cX12_turn 4 (some .int))) B.pre w (List.mem_cons_of_mem _ h)
  have hown : s.vm.findClass RX12 = some m.cls := findClass_of_methodNamed B.named
  have hlocks := B.notSynchronized
  subst hsz
  have hD := hD0.self (sz := s.heap.size)
  generalize hAe : va_A [(a0, .inr (12, [.int 0, .int 0, .ref a1, .ref a2, .ref a3, .ref a4, .int 0, .ref a5, .int 0, .int 0, .int 0, .int 0, .long 0, .int (-1), .int 0, .int 0, .ref a6, .int 0, .ref a7, .ref a8, .int 0, .ref a9, .ref a10, .int 0, .int 0, .ref a11, .ref a12, .int 0, .ref a13, .ref a14, .int 0, .long 0, .long 0, .int 0, .int 0, .int 0, .int 0, .int 0, .ref a15, .int 0, .int 0, .ref a16, .int 0, .ref a17, .ref a18, .ref a19, .int 0, .ref a20, .ref a21, .long 0, .ref a22, .int 0])), (a1, .inl (G.2 0, 7, .inl (fun _ => 0))), (a2, .inl (G.2 0, 5740, .inl (upd (upd (upd (fun _ => 0) 3 (-1)) 4 1000) 6 (-1))))] s.heap.size = A at hD hT ⊢
  have hA : ∀ q : Nat, s.heap.size ≤ q → A q := fun q h => by rw [← hAe]; exact Or.inr h
  have hS : va_S A s.heap s.heap [] := va_S.rf
  have hP : va_P G.1 vwCl [(a0, .inr (12, [.int 0, .int 0, .ref a1, .ref a2, .ref a3, .ref a4, .int 0, .ref a5, .int 0, .int 0, .int 0, .int 0, .long 0, .int (-1), .int 0, .int 0, .ref a6, .int 0, .ref a7, .ref a8, .int 0, .ref a9, .ref a10, .int 0, .int 0, .ref a11, .ref a12, .int 0, .ref a13, .ref a14, .int 0, .long 0, .long 0, .int 0, .int 0, .int 0, .int 0, .int 0, .ref a15, .int 0, .int 0, .ref a16, .int 0, .ref a17, .ref a18, .ref a19, .int 0, .ref a20, .ref a21, .long 0, .ref a22, .int 0])), (a1, .inl (G.2 0, 7, .inl (fun _ => 0))), (a2, .inl (G.2 0, 5740, .inl (upd (upd (upd (fun _ => 0) 3 (-1)) 4 1000) 6 (-1))))] s.heap := hP
  have hl := lv_entry ([.ref a0, .int n0, .int n1, .int n2]) (n := 4) (Nat.le_of_ble_eq_true rfl)
  rw [lg_entry_eq]
  generalize (lg_sl ([.ref a0, .int n0, .int n1, .int n2]) ++ List.replicate (4 - (lg_sl ([.ref a0, .int n0, .int n1, .int n2])).length) Slot.unset).toArray = ls at hl ⊢
  have hl : lv_has ls 4 [(0, .ref a0), (1, .int n0), (2, .int n1), (3, .int n2)] := hl
  refine lv_aload_n hx hb dX12_turn_0 rfl (lv_at hl 0 rfl) ?_
  refine lv_iconst (v := 0) hx hb dX12_turn_1 (by decide) ?_
  refine va_put (D := G.1) (ci := 12) (v := .int 0) (ty := .int) (C := RX12) (T := TX12) (N := 52) hx hb hts inG_X12 tyX12 tyX12_ok nmX12 hown hK hP hD hS 0 rfl rfl 0 (by decide) (hts _ fl_X12_107) (fun _ h9 => h9) rfl (by decide +kernel) rfl rfl (Nat.le_of_ble_eq_true rfl) dX12_turn_2 (fun H locs hP hD hS => ?_)
  have hP : va_P G.1 vwCl [(a0, .inr (12, [.int 0, .int 0, .ref a1, .ref a2, .ref a3, .ref a4, .int 0, .ref a5, .int 0, .int 0, .int 0, .int 0, .long 0, .int (-1), .int 0, .int 0, .ref a6, .int 0, .ref a7, .ref a8, .int 0, .ref a9, .ref a10, .int 0, .int 0, .ref a11, .ref a12, .int 0, .ref a13, .ref a14, .int 0, .long 0, .long 0, .int 0, .int 0, .int 0, .int 0, .int 0, .ref a15, .int 0, .int 0, .ref a16, .int 0, .ref a17, .ref a18, .ref a19, .int 0, .ref a20, .ref a21, .long 0, .ref a22, .int 0])), (a1, .inl (G.2 0, 7, .inl (fun _ => 0))), (a2, .inl (G.2 0, 5740, .inl (upd (upd (upd (fun _ => 0) 3 (-1)) 4 1000) 6 (-1))))] H := hP
  have hD : va_D A [(a0, .inr (12, [.int 0, .int 0, .ref a1, .ref a2, .ref a3, .ref a4, .int 0, .ref a5, .int 0, .int 0, .int 0, .int 0, .long 0, .int (-1), .int 0, .int 0, .ref a6, .int 0, .ref a7, .ref a8, .int 0, .ref a9, .ref a10, .int 0, .int 0, .ref a11, .ref a12, .int 0, .ref a13, .ref a14, .int 0, .long 0, .long 0, .int 0, .int 0, .int 0, .int 0, .int 0, .ref a15, .int 0, .int 0, .ref a16, .int 0, .ref a17, .ref a18, .ref a19, .int 0, .ref a20, .ref a21, .long 0, .ref a22, .int 0])), (a1, .inl (G.2 0, 7, .inl (fun _ => 0))), (a2, .inl (G.2 0, 5740, .inl (upd (upd (upd (fun _ => 0) 3 (-1)) 4 1000) 6 (-1))))] := hD
  refine lv_iload_n hx hb dX12_turn_5 rfl (lv_at hl 2 rfl) ?_
  refine lv_iload_n hx hb dX12_turn_6 rfl (lv_at hl 3 rfl) ?_
  have hPc := hP.sub (ws' := []) [] rfl
  have hDc := hD.sub (ws' := []) [] (by decide) rfl
  have hFc := va_free (wc := []) hD hS hA [] rfl
  refine va_calli (va_runS (As := [.int n1, .int n2]) (rest := []) ⟨hx, hb, hml, hown, hts⟩ (kX12_fits_4 l G H.size n1 n2) (va_cwS 2 hts gS_X12_163 rfl rfl rfl hs_X12_fits ⟨Nat.le_of_ble_eq_true rfl, Nat.le_of_ble_eq_true rfl⟩) (g5_preS hPc hK hDc hN hT hS hFc) rfl rfl hl.1 rfl (lv_room (Nat.le_of_ble_eq_true rfl)) dX12_turn_7 ⟨Nat.le_of_ble_eq_true rfl, Nat.le_of_ble_eq_true rfl⟩) hS (fun q _ h => hFc q h) hFc (fun r u t H1 locs ht hvm hw hB hz1 hk1 hS => ?_)
  obtain ⟨hP1, hD1⟩ := hB
  rw [ht] at hP1
  rcases hw with ⟨i_1, i_2, rfl, rfl⟩ | ⟨i_3, i_4, rfl, rfl⟩ | ⟨i_5, i_6, rfl, rfl⟩ | ⟨i_7, i_8, rfl, rfl⟩ | ⟨i_9, i_10, rfl, rfl⟩ | ⟨i_11, i_12, rfl, rfl⟩ | ⟨i_13, i_14, rfl, rfl⟩ | ⟨i_15, i_16, rfl, rfl⟩ | ⟨i_17, rfl, rfl⟩ | ⟨i_18, rfl, rfl⟩
  ·
    have hP := g5_same hP hk1
    generalize H1 = H at hP hS ⊢
    refine lv_if_ne (tgt := 19) hx hb dX12_turn_10 (by decide) (fun c_19 => ?_) (fun c_19 => ?_)
    ·
      exact absurd c_19 (by decide)
    ·
      refine lv_aload_n hx hb dX12_turn_13 rfl (lv_at hl 0 rfl) ?_
      refine lv_iconst (v := (-1)) hx hb dX12_turn_14 (by decide) ?_
      have hPc := hP.sub (ws' := [(a0, .inr (12, [.int 0, .int 0, .ref a1, .ref a2, .ref a3, .ref a4, .int 0, .ref a5, .int 0, .int 0, .int 0, .int 0, .long 0, .int (-1), .int 0, .int 0, .ref a6, .int 0, .ref a7, .ref a8, .int 0, .ref a9, .ref a10, .int 0, .int 0, .ref a11, .ref a12, .int 0, .ref a13, .ref a14, .int 0, .long 0, .long 0, .int 0, .int 0, .int 0, .int 0, .int 0, .ref a15, .int 0, .int 0, .ref a16, .int 0, .ref a17, .ref a18, .ref a19, .int 0, .ref a20, .ref a21, .long 0, .ref a22, .int 0])), (a1, .inl (G.2 0, 7, .inl (fun _ => 0)))]) [0, 1] rfl
      have hDc := hD.sub (ws' := [(a0, .inr (12, [.int 0, .int 0, .ref a1, .ref a2, .ref a3, .ref a4, .int 0, .ref a5, .int 0, .int 0, .int 0, .int 0, .long 0, .int (-1), .int 0, .int 0, .ref a6, .int 0, .ref a7, .ref a8, .int 0, .ref a9, .ref a10, .int 0, .int 0, .ref a11, .ref a12, .int 0, .ref a13, .ref a14, .int 0, .long 0, .long 0, .int 0, .int 0, .int 0, .int 0, .int 0, .ref a15, .int 0, .int 0, .ref a16, .int 0, .ref a17, .ref a18, .ref a19, .int 0, .ref a20, .ref a21, .long 0, .ref a22, .int 0])), (a1, .inl (G.2 0, 7, .inl (fun _ => 0)))]) [0, 1] (by decide) rfl
      have hFc := va_free (wc := [(a0, .inr (12, [.int 0, .int 0, .ref a1, .ref a2, .ref a3, .ref a4, .int 0, .ref a5, .int 0, .int 0, .int 0, .int 0, .long 0, .int (-1), .int 0, .int 0, .ref a6, .int 0, .ref a7, .ref a8, .int 0, .ref a9, .ref a10, .int 0, .int 0, .ref a11, .ref a12, .int 0, .ref a13, .ref a14, .int 0, .long 0, .long 0, .int 0, .int 0, .int 0, .int 0, .int 0, .ref a15, .int 0, .int 0, .ref a16, .int 0, .ref a17, .ref a18, .ref a19, .int 0, .ref a20, .ref a21, .long 0, .ref a22, .int 0])), (a1, .inl (G.2 0, 7, .inl (fun _ => 0)))]) hD hS hA [0, 1] rfl
      refine va_calli (va_runV (As := [.int (-1)]) (rest := []) ⟨hx, hb, hml, hown, hts⟩ (kX12_tell l G a0 a1 a2 a3 a4 a5 a6 a7 a8 a9 a10 a11 a12 a13 a14 a15 a16 a17 a18 a19 a20 a21 a22 H.size) (cwV 1 hts gV_X12_125 rfl rfl rfl hv_X12_tell ⟨Nat.le_of_ble_eq_true rfl, Nat.le_of_ble_eq_true rfl⟩) (g5_preV hPc hK hDc hN hT hS hFc (ci := 12) (q0 := 0) rfl rfl) rfl rfl hl.1 rfl (lv_room (Nat.le_of_ble_eq_true rfl)) dX12_turn_15 ⟨Nat.le_of_ble_eq_true rfl, Nat.le_of_ble_eq_true rfl⟩) hS (fun q _ h => hFc q h) hFc (fun r u t H1 locs ht hvm hw hB hz1 hk1 hS => ?_)
      obtain ⟨hP1, hD1⟩ := hB
      rw [ht] at hP1
      obtain ⟨rfl, rfl⟩ := hw
      obtain ⟨hP, hD⟩ := va_join (wr := [(a2, .inl (G.2 0, 5740, .inl (upd (upd (upd (fun _ => 0) 3 (-1)) 4 1000) 6 (-1))))]) (w1 := [(a0, .inr (12, [.int 0, .int (-1), .ref a1, .ref a2, .ref a3, .ref a4, .int 0, .ref a5, .int 0, .int 0, .int 0, .int 0, .long 0, .int (-1), .int 0, .int 0, .ref a6, .int 0, .ref a7, .ref a8, .int 0, .ref a9, .ref a10, .int 0, .int 0, .ref a11, .ref a12, .int 0, .ref a13, .ref a14, .int 0, .long 0, .long 0, .int 0, .int 0, .int 0, .int 0, .int 0, .ref a15, .int 0, .int 0, .ref a16, .int 0, .ref a17, .ref a18, .ref a19, .int 0, .ref a20, .ref a21, .long 0, .ref a22, .int 0])), (a1, .inl (G.2 0, 7, .inl (upd (fun _ => 0) 1 1)))]) hP hD [0, 1] [2] rfl rfl (by decide) (by decide) hk1 hFc hP1 hD1
      generalize H1 = H at hP hS ⊢
      have hP : va_P G.1 vwCl [(a2, .inl (G.2 0, 5740, .inl (upd (upd (upd (fun _ => 0) 3 (-1)) 4 1000) 6 (-1)))), (a0, .inr (12, [.int 0, .int (-1), .ref a1, .ref a2, .ref a3, .ref a4, .int 0, .ref a5, .int 0, .int 0, .int 0, .int 0, .long 0, .int (-1), .int 0, .int 0, .ref a6, .int 0, .ref a7, .ref a8, .int 0, .ref a9, .ref a10, .int 0, .int 0, .ref a11, .ref a12, .int 0, .ref a13, .ref a14, .int 0, .long 0, .long 0, .int 0, .int 0, .int 0, .int 0, .int 0, .ref a15, .int 0, .int 0, .ref a16, .int 0, .ref a17, .ref a18, .ref a19, .int 0, .ref a20, .ref a21, .long 0, .ref a22, .int 0])), (a1, .inl (G.2 0, 7, .inl (upd (fun _ => 0) 1 1)))] H := hP
      have hD : va_D A [(a2, .inl (G.2 0, 5740, .inl (upd (upd (upd (fun _ => 0) 3 (-1)) 4 1000) 6 (-1)))), (a0, .inr (12, [.int 0, .int (-1), .ref a1, .ref a2, .ref a3, .ref a4, .int 0, .ref a5, .int 0, .int 0, .int 0, .int 0, .long 0, .int (-1), .int 0, .int 0, .ref a6, .int 0, .ref a7, .ref a8, .int 0, .ref a9, .ref a10, .int 0, .int 0, .ref a11, .ref a12, .int 0, .ref a13, .ref a14, .int 0, .long 0, .long 0, .int 0, .int 0, .int 0, .int 0, .int 0, .ref a15, .int 0, .int 0, .ref a16, .int 0, .ref a17, .ref a18, .ref a19, .int 0, .ref a20, .ref a21, .long 0, .ref a22, .int 0])), (a1, .inl (G.2 0, 7, .inl (upd (fun _ => 0) 1 1)))] := hD
      have hP := hP.sub (ws' := []) [] rfl
      have hD := hD.sub (ws' := []) [] (by decide) rfl
      exact W.iret (v := (-1)) hx hb hr (fun t ht hW => ⟨⟨(-1), [], rfl, Or.inl (⟨i_1, i_2, rfl, rfl⟩), by rw [ht]; exact hP, hD⟩, hS.F ht⟩) hS.2.2 dX12_turn_18
  ·
    have hP := g5_same hP hk1
    generalize H1 = H at hP hS ⊢
    refine lv_if_ne (tgt := 19) hx hb dX12_turn_10 (by decide) (fun c_20 => ?_) (fun c_20 => ?_)
    ·
      refine lv_aload_n hx hb dX12_turn_19 rfl (lv_at hl 0 rfl) ?_
      refine lv_iload_n hx hb dX12_turn_20 rfl (lv_at hl 1 rfl) ?_
      have hPc := hP.sub (ws' := [(a0, .inr (12, [.int 0, .int 0, .ref a1, .ref a2, .ref a3, .ref a4, .int 0, .ref a5, .int 0, .int 0, .int 0, .int 0, .long 0, .int (-1), .int 0, .int 0, .ref a6, .int 0, .ref a7, .ref a8, .int 0, .ref a9, .ref a10, .int 0, .int 0, .ref a11, .ref a12, .int 0, .ref a13, .ref a14, .int 0, .long 0, .long 0, .int 0, .int 0, .int 0, .int 0, .int 0, .ref a15, .int 0, .int 0, .ref a16, .int 0, .ref a17, .ref a18, .ref a19, .int 0, .ref a20, .ref a21, .long 0, .ref a22, .int 0])), (a2, .inl (G.2 0, 5740, .inl (upd (upd (upd (fun _ => 0) 3 (-1)) 4 1000) 6 (-1))))]) [0, 2] rfl
      have hDc := hD.sub (ws' := [(a0, .inr (12, [.int 0, .int 0, .ref a1, .ref a2, .ref a3, .ref a4, .int 0, .ref a5, .int 0, .int 0, .int 0, .int 0, .long 0, .int (-1), .int 0, .int 0, .ref a6, .int 0, .ref a7, .ref a8, .int 0, .ref a9, .ref a10, .int 0, .int 0, .ref a11, .ref a12, .int 0, .ref a13, .ref a14, .int 0, .long 0, .long 0, .int 0, .int 0, .int 0, .int 0, .int 0, .ref a15, .int 0, .int 0, .ref a16, .int 0, .ref a17, .ref a18, .ref a19, .int 0, .ref a20, .ref a21, .long 0, .ref a22, .int 0])), (a2, .inl (G.2 0, 5740, .inl (upd (upd (upd (fun _ => 0) 3 (-1)) 4 1000) 6 (-1))))]) [0, 2] (by decide) rfl
      have hFc := va_free (wc := [(a0, .inr (12, [.int 0, .int 0, .ref a1, .ref a2, .ref a3, .ref a4, .int 0, .ref a5, .int 0, .int 0, .int 0, .int 0, .long 0, .int (-1), .int 0, .int 0, .ref a6, .int 0, .ref a7, .ref a8, .int 0, .ref a9, .ref a10, .int 0, .int 0, .ref a11, .ref a12, .int 0, .ref a13, .ref a14, .int 0, .long 0, .long 0, .int 0, .int 0, .int 0, .int 0, .int 0, .ref a15, .int 0, .int 0, .ref a16, .int 0, .ref a17, .ref a18, .ref a19, .int 0, .ref a20, .ref a21, .long 0, .ref a22, .int 0])), (a2, .inl (G.2 0, 5740, .inl (upd (upd (upd (fun _ => 0) 3 (-1)) 4 1000) 6 (-1))))]) hD hS hA [0, 2] rfl
      refine va_calli (va_runV (As := [.int n0]) (rest := []) ⟨hx, hb, hml, hown, hts⟩ (kX12_isGlass l G a0 a1 a2 a3 a4 a5 a6 a7 a8 a9 a10 a11 a12 a13 a14 a15 a16 a17 a18 a19 a20 a21 a22 H.size n0) (cwV 1 hts gV_X12_170 rfl rfl rfl hv_X12_isGlass ⟨Nat.le_of_ble_eq_true rfl, Nat.le_of_ble_eq_true rfl⟩) (g5_preV hPc hK hDc hN hT hS hFc (ci := 12) (q0 := 0) rfl rfl) rfl rfl hl.1 rfl (lv_room (Nat.le_of_ble_eq_true rfl)) dX12_turn_21 ⟨Nat.le_of_ble_eq_true rfl, Nat.le_of_ble_eq_true rfl⟩) hS (fun q _ h => hFc q h) hFc (fun r u t H1 locs ht hvm hw hB hz1 hk1 hS => ?_)
      obtain ⟨hP1, hD1⟩ := hB
      rw [ht] at hP1
      obtain ⟨i_21, rfl, rfl⟩ := hw
      obtain ⟨hP, hD⟩ := va_join (wr := [(a1, .inl (G.2 0, 7, .inl (fun _ => 0)))]) (w1 := [(a0, .inr (12, [.int 0, .int 0, .ref a1, .ref a2, .ref a3, .ref a4, .int 0, .ref a5, .int 0, .int 0, .int 0, .int 0, .long 0, .int (-1), .int 0, .int 0, .ref a6, .int 0, .ref a7, .ref a8, .int 0, .ref a9, .ref a10, .int 0, .int 0, .ref a11, .ref a12, .int 0, .ref a13, .ref a14, .int 0, .long 0, .long 0, .int 0, .int 0, .int 0, .int 0, .int 0, .ref a15, .int 0, .int 0, .ref a16, .int 0, .ref a17, .ref a18, .ref a19, .int 0, .ref a20, .ref a21, .long 0, .ref a22, .int 0])), (a2, .inl (G.2 0, 5740, .inl (upd (upd (upd (fun _ => 0) 3 (-1)) 4 1000) 6 (-1))))]) hP hD [0, 2] [1] rfl rfl (by decide) (by decide) hk1 hFc hP1 hD1
      generalize H1 = H at hP hS ⊢
      have hP : va_P G.1 vwCl [(a1, .inl (G.2 0, 7, .inl (fun _ => 0))), (a0, .inr (12, [.int 0, .int 0, .ref a1, .ref a2, .ref a3, .ref a4, .int 0, .ref a5, .int 0, .int 0, .int 0, .int 0, .long 0, .int (-1), .int 0, .int 0, .ref a6, .int 0, .ref a7, .ref a8, .int 0, .ref a9, .ref a10, .int 0, .int 0, .ref a11, .ref a12, .int 0, .ref a13, .ref a14, .int 0, .long 0, .long 0, .int 0, .int 0, .int 0, .int 0, .int 0, .ref a15, .int 0, .int 0, .ref a16, .int 0, .ref a17, .ref a18, .ref a19, .int 0, .ref a20, .ref a21, .long 0, .ref a22, .int 0])), (a2, .inl (G.2 0, 5740, .inl (upd (upd (upd (fun _ => 0) 3 (-1)) 4 1000) 6 (-1))))] H := hP
      have hD : va_D A [(a1, .inl (G.2 0, 7, .inl (fun _ => 0))), (a0, .inr (12, [.int 0, .int 0, .ref a1, .ref a2, .ref a3, .ref a4, .int 0, .ref a5, .int 0, .int 0, .int 0, .int 0, .long 0, .int (-1), .int 0, .int 0, .ref a6, .int 0, .ref a7, .ref a8, .int 0, .ref a9, .ref a10, .int 0, .int 0, .ref a11, .ref a12, .int 0, .ref a13, .ref a14, .int 0, .long 0, .long 0, .int 0, .int 0, .int 0, .int 0, .int 0, .ref a15, .int 0, .int 0, .ref a16, .int 0, .ref a17, .ref a18, .ref a19, .int 0, .ref a20, .ref a21, .long 0, .ref a22, .int 0])), (a2, .inl (G.2 0, 5740, .inl (upd (upd (upd (fun _ => 0) 3 (-1)) 4 1000) 6 (-1))))] := hD
      refine lv_if_eq (tgt := 45) hx hb dX12_turn_24 (by decide) (fun c_22 => ?_) (fun c_22 => ?_)
      ·
        refine lv_aload_n hx hb dX12_turn_45 rfl (lv_at hl 0 rfl) ?_
        refine lv_bipush (v := (-2)) hx hb dX12_turn_46 (by decide) ?_
        have hPc := hP.sub (ws' := [(a0, .inr (12, [.int 0, .int 0, .ref a1, .ref a2, .ref a3, .ref a4, .int 0, .ref a5, .int 0, .int 0, .int 0, .int 0, .long 0, .int (-1), .int 0, .int 0, .ref a6, .int 0, .ref a7, .ref a8, .int 0, .ref a9, .ref a10, .int 0, .int 0, .ref a11, .ref a12, .int 0, .ref a13, .ref a14, .int 0, .long 0, .long 0, .int 0, .int 0, .int 0, .int 0, .int 0, .ref a15, .int 0, .int 0, .ref a16, .int 0, .ref a17, .ref a18, .ref a19, .int 0, .ref a20, .ref a21, .long 0, .ref a22, .int 0])), (a1, .inl (G.2 0, 7, .inl (fun _ => 0)))]) [1, 0] rfl
        have hDc := hD.sub (ws' := [(a0, .inr (12, [.int 0, .int 0, .ref a1, .ref a2, .ref a3, .ref a4, .int 0, .ref a5, .int 0, .int 0, .int 0, .int 0, .long 0, .int (-1), .int 0, .int 0, .ref a6, .int 0, .ref a7, .ref a8, .int 0, .ref a9, .ref a10, .int 0, .int 0, .ref a11, .ref a12, .int 0, .ref a13, .ref a14, .int 0, .long 0, .long 0, .int 0, .int 0, .int 0, .int 0, .int 0, .ref a15, .int 0, .int 0, .ref a16, .int 0, .ref a17, .ref a18, .ref a19, .int 0, .ref a20, .ref a21, .long 0, .ref a22, .int 0])), (a1, .inl (G.2 0, 7, .inl (fun _ => 0)))]) [1, 0] (by decide) rfl
        have hFc := va_free (wc := [(a0, .inr (12, [.int 0, .int 0, .ref a1, .ref a2, .ref a3, .ref a4, .int 0, .ref a5, .int 0, .int 0, .int 0, .int 0, .long 0, .int (-1), .int 0, .int 0, .ref a6, .int 0, .ref a7, .ref a8, .int 0, .ref a9, .ref a10, .int 0, .int 0, .ref a11, .ref a12, .int 0, .ref a13, .ref a14, .int 0, .long 0, .long 0, .int 0, .int 0, .int 0, .int 0, .int 0, .ref a15, .int 0, .int 0, .ref a16, .int 0, .ref a17, .ref a18, .ref a19, .int 0, .ref a20, .ref a21, .long 0, .ref a22, .int 0])), (a1, .inl (G.2 0, 7, .inl (fun _ => 0)))]) hD hS hA [1, 0] rfl
        refine va_calli (va_runV (As := [.int (-2)]) (rest := []) ⟨hx, hb, hml, hown, hts⟩ (kX12_tell_4 l G a0 a1 a2 a3 a4 a5 a6 a7 a8 a9 a10 a11 a12 a13 a14 a15 a16 a17 a18 a19 a20 a21 a22 H.size) (cwV 1 hts gV_X12_125 rfl rfl rfl hv_X12_tell ⟨Nat.le_of_ble_eq_true rfl, Nat.le_of_ble_eq_true rfl⟩) (g5_preV hPc hK hDc hN hT hS hFc (ci := 12) (q0 := 0) rfl rfl) rfl rfl hl.1 rfl (lv_room (Nat.le_of_ble_eq_true rfl)) dX12_turn_48 ⟨Nat.le_of_ble_eq_true rfl, Nat.le_of_ble_eq_true rfl⟩) hS (fun q _ h => hFc q h) hFc (fun r u t H1 locs ht hvm hw hB hz1 hk1 hS => ?_)
        obtain ⟨hP1, hD1⟩ := hB
        rw [ht] at hP1
        obtain ⟨rfl, rfl⟩ := hw
        obtain ⟨hP, hD⟩ := va_join (wr := [(a2, .inl (G.2 0, 5740, .inl (upd (upd (upd (fun _ => 0) 3 (-1)) 4 1000) 6 (-1))))]) (w1 := [(a0, .inr (12, [.int 0, .int (-2), .ref a1, .ref a2, .ref a3, .ref a4, .int 0, .ref a5, .int 0, .int 0, .int 0, .int 0, .long 0, .int (-1), .int 0, .int 0, .ref a6, .int 0, .ref a7, .ref a8, .int 0, .ref a9, .ref a10, .int 0, .int 0, .ref a11, .ref a12, .int 0, .ref a13, .ref a14, .int 0, .long 0, .long 0, .int 0, .int 0, .int 0, .int 0, .int 0, .ref a15, .int 0, .int 0, .ref a16, .int 0, .ref a17, .ref a18, .ref a19, .int 0, .ref a20, .ref a21, .long 0, .ref a22, .int 0])), (a1, .inl (G.2 0, 7, .inl (upd (fun _ => 0) 2 1)))]) hP hD [1, 0] [2] rfl rfl (by decide) (by decide) hk1 hFc hP1 hD1
        generalize H1 = H at hP hS ⊢
        have hP : va_P G.1 vwCl [(a2, .inl (G.2 0, 5740, .inl (upd (upd (upd (fun _ => 0) 3 (-1)) 4 1000) 6 (-1)))), (a0, .inr (12, [.int 0, .int (-2), .ref a1, .ref a2, .ref a3, .ref a4, .int 0, .ref a5, .int 0, .int 0, .int 0, .int 0, .long 0, .int (-1), .int 0, .int 0, .ref a6, .int 0, .ref a7, .ref a8, .int 0, .ref a9, .ref a10, .int 0, .int 0, .ref a11, .ref a12, .int 0, .ref a13, .ref a14, .int 0, .long 0, .long 0, .int 0, .int 0, .int 0, .int 0, .int 0, .ref a15, .int 0, .int 0, .ref a16, .int 0, .ref a17, .ref a18, .ref a19, .int 0, .ref a20, .ref a21, .long 0, .ref a22, .int 0])), (a1, .inl (G.2 0, 7, .inl (upd (fun _ => 0) 2 1)))] H := hP
        have hD : va_D A [(a2, .inl (G.2 0, 5740, .inl (upd (upd (upd (fun _ => 0) 3 (-1)) 4 1000) 6 (-1)))), (a0, .inr (12, [.int 0, .int (-2), .ref a1, .ref a2, .ref a3, .ref a4, .int 0, .ref a5, .int 0, .int 0, .int 0, .int 0, .long 0, .int (-1), .int 0, .int 0, .ref a6, .int 0, .ref a7, .ref a8, .int 0, .ref a9, .ref a10, .int 0, .int 0, .ref a11, .ref a12, .int 0, .ref a13, .ref a14, .int 0, .long 0, .long 0, .int 0, .int 0, .int 0, .int 0, .int 0, .ref a15, .int 0, .int 0, .ref a16, .int 0, .ref a17, .ref a18, .ref a19, .int 0, .ref a20, .ref a21, .long 0, .ref a22, .int 0])), (a1, .inl (G.2 0, 7, .inl (upd (fun _ => 0) 2 1)))] := hD
        have hP := hP.sub (ws' := []) [] rfl
        have hD := hD.sub (ws' := []) [] (by decide) rfl
        exact W.iret (v := (-2)) hx hb hr (fun t ht hW => ⟨⟨(-2), [], rfl, Or.inr (Or.inl (⟨i_3, i_4, i_21, rfl, rfl⟩)), by rw [ht]; exact hP, hD⟩, hS.F ht⟩) hS.2.2 dX12_turn_51
      ·
        exact absurd c_22 (by decide)
    ·
      exact absurd c_20 (by decide)
  ·
    have hP := g5_same hP hk1
    generalize H1 = H at hP hS ⊢
    refine lv_if_ne (tgt := 19) hx hb dX12_turn_10 (by decide) (fun c_23 => ?_) (fun c_23 => ?_)
    ·
      exact absurd c_23 (by decide)
    ·
      refine lv_aload_n hx hb dX12_turn_13 rfl (lv_at hl 0 rfl) ?_
      refine lv_iconst (v := (-1)) hx hb dX12_turn_14 (by decide) ?_
      have hPc := hP.sub (ws' := [(a0, .inr (12, [.int 0, .int 0, .ref a1, .ref a2, .ref a3, .ref a4, .int 0, .ref a5, .int 0, .int 0, .int 0, .int 0, .long 0, .int (-1), .int 0, .int 0, .ref a6, .int 0, .ref a7, .ref a8, .int 0, .ref a9, .ref a10, .int 0, .int 0, .ref a11, .ref a12, .int 0, .ref a13, .ref a14, .int 0, .long 0, .long 0, .int 0, .int 0, .int 0, .int 0, .int 0, .ref a15, .int 0, .int 0, .ref a16, .int 0, .ref a17, .ref a18, .ref a19, .int 0, .ref a20, .ref a21, .long 0, .ref a22, .int 0])), (a1, .inl (G.2 0, 7, .inl (fun _ => 0)))]) [0, 1] rfl
      have hDc := hD.sub (ws' := [(a0, .inr (12, [.int 0, .int 0, .ref a1, .ref a2, .ref a3, .ref a4, .int 0, .ref a5, .int 0, .int 0, .int 0, .int 0, .long 0, .int (-1), .int 0, .int 0, .ref a6, .int 0, .ref a7, .ref a8, .int 0, .ref a9, .ref a10, .int 0, .int 0, .ref a11, .ref a12, .int 0, .ref a13, .ref a14, .int 0, .long 0, .long 0, .int 0, .int 0, .int 0, .int 0, .int 0, .ref a15, .int 0, .int 0, .ref a16, .int 0, .ref a17, .ref a18, .ref a19, .int 0, .ref a20, .ref a21, .long 0, .ref a22, .int 0])), (a1, .inl (G.2 0, 7, .inl (fun _ => 0)))]) [0, 1] (by decide) rfl
      have hFc := va_free (wc := [(a0, .inr (12, [.int 0, .int 0, .ref a1, .ref a2, .ref a3, .ref a4, .int 0, .ref a5, .int 0, .int 0, .int 0, .int 0, .long 0, .int (-1), .int 0, .int 0, .ref a6, .int 0, .ref a7, .ref a8, .int 0, .ref a9, .ref a10, .int 0, .int 0, .ref a11, .ref a12, .int 0, .ref a13, .ref a14, .int 0, .long 0, .long 0, .int 0, .int 0, .int 0, .int 0, .int 0, .ref a15, .int 0, .int 0, .ref a16, .int 0, .ref a17, .ref a18, .ref a19, .int 0, .ref a20, .ref a21, .long 0, .ref a22, .int 0])), (a1, .inl (G.2 0, 7, .inl (fun _ => 0)))]) hD hS hA [0, 1] rfl
      refine va_calli (va_runV (As := [.int (-1)]) (rest := []) ⟨hx, hb, hml, hown, hts⟩ (kX12_tell l G a0 a1 a2 a3 a4 a5 a6 a7 a8 a9 a10 a11 a12 a13 a14 a15 a16 a17 a18 a19 a20 a21 a22 H.size) (cwV 1 hts gV_X12_125 rfl rfl rfl hv_X12_tell ⟨Nat.le_of_ble_eq_true rfl, Nat.le_of_ble_eq_true rfl⟩) (g5_preV hPc hK hDc hN hT hS hFc (ci := 12) (q0 := 0) rfl rfl) rfl rfl hl.1 rfl (lv_room (Nat.le_of_ble_eq_true rfl)) dX12_turn_15 ⟨Nat.le_of_ble_eq_true rfl, Nat.le_of_ble_eq_true rfl⟩) hS (fun q _ h => hFc q h) hFc (fun r u t H1 locs ht hvm hw hB hz1 hk1 hS => ?_)
      obtain ⟨hP1, hD1⟩ := hB
      rw [ht] at hP1
      obtain ⟨rfl, rfl⟩ := hw
      obtain ⟨hP, hD⟩ := va_join (wr := [(a2, .inl (G.2 0, 5740, .inl (upd (upd (upd (fun _ => 0) 3 (-1)) 4 1000) 6 (-1))))]) (w1 := [(a0, .inr (12, [.int 0, .int (-1), .ref a1, .ref a2, .ref a3, .ref a4, .int 0, .ref a5, .int 0, .int 0, .int 0, .int 0, .long 0, .int (-1), .int 0, .int 0, .ref a6, .int 0, .ref a7, .ref a8, .int 0, .ref a9, .ref a10, .int 0, .int 0, .ref a11, .ref a12, .int 0, .ref a13, .ref a14, .int 0, .long 0, .long 0, .int 0, .int 0, .int 0, .int 0, .int 0, .ref a15, .int 0, .int 0, .ref a16, .int 0, .ref a17, .ref a18, .ref a19, .int 0, .ref a20, .ref a21, .long 0, .ref a22, .int 0])), (a1, .inl (G.2 0, 7, .inl (upd (fun _ => 0) 1 1)))]) hP hD [0, 1] [2] rfl rfl (by decide) (by decide) hk1 hFc hP1 hD1
      generalize H1 = H at hP hS ⊢
      have hP : va_P G.1 vwCl [(a2, .inl (G.2 0, 5740, .inl (upd (upd (upd (fun _ => 0) 3 (-1)) 4 1000) 6 (-1)))), (a0, .inr (12, [.int 0, .int (-1), .ref a1, .ref a2, .ref a3, .ref a4, .int 0, .ref a5, .int 0, .int 0, .int 0, .int 0, .long 0, .int (-1), .int 0, .int 0, .ref a6, .int 0, .ref a7, .ref a8, .int 0, .ref a9, .ref a10, .int 0, .int 0, .ref a11, .ref a12, .int 0, .ref a13, .ref a14, .int 0, .long 0, .long 0, .int 0, .int 0, .int 0, .int 0, .int 0, .ref a15, .int 0, .int 0, .ref a16, .int 0, .ref a17, .ref a18, .ref a19, .int 0, .ref a20, .ref a21, .long 0, .ref a22, .int 0])), (a1, .inl (G.2 0, 7, .inl (upd (fun _ => 0) 1 1)))] H := hP
      have hD : va_D A [(a2, .inl (G.2 0, 5740, .inl (upd (upd (upd (fun _ => 0) 3 (-1)) 4 1000) 6 (-1)))), (a0, .inr (12, [.int 0, .int (-1), .ref a1, .ref a2, .ref a3, .ref a4, .int 0, .ref a5, .int 0, .int 0, .int 0, .int 0, .long 0, .int (-1), .int 0, .int 0, .ref a6, .int 0, .ref a7, .ref a8, .int 0, .ref a9, .ref a10, .int 0, .int 0, .ref a11, .ref a12, .int 0, .ref a13, .ref a14, .int 0, .long 0, .long 0, .int 0, .int 0, .int 0, .int 0, .int 0, .ref a15, .int 0, .int 0, .ref a16, .int 0, .ref a17, .ref a18, .ref a19, .int 0, .ref a20, .ref a21, .long 0, .ref a22, .int 0])), (a1, .inl (G.2 0, 7, .inl (upd (fun _ => 0) 1 1)))] := hD
      have hP := hP.sub (ws' := []) [] rfl
      have hD := hD.sub (ws' := []) [] (by decide) rfl
      exact W.iret (v := (-1)) hx hb hr (fun t ht hW => ⟨⟨(-1), [], rfl, Or.inr (Or.inr (Or.inl (⟨i_5, i_6, rfl, rfl⟩))), by rw [ht]; exact hP, hD⟩, hS.F ht⟩) hS.2.2 dX12_turn_18
  ·
    have hP := g5_same hP hk1
    generalize H1 = H at hP hS ⊢
    refine lv_if_ne (tgt := 19) hx hb dX12_turn_10 (by decide) (fun c_24 => ?_) (fun c_24 => ?_)
    ·
      refine lv_aload_n hx hb dX12_turn_19 rfl (lv_at hl 0 rfl) ?_
      refine lv_iload_n hx hb dX12_turn_20 rfl (lv_at hl 1 rfl) ?_
      have hPc := hP.sub (ws' := [(a0, .inr (12, [.int 0, .int 0, .ref a1, .ref a2, .ref a3, .ref a4, .int 0, .ref a5, .int 0, .int 0, .int 0, .int 0, .long 0, .int (-1), .int 0, .int 0, .ref a6, .int 0, .ref a7, .ref a8, .int 0, .ref a9, .ref a10, .int 0, .int 0, .ref a11, .ref a12, .int 0, .ref a13, .ref a14, .int 0, .long 0, .long 0, .int 0, .int 0, .int 0, .int 0, .int 0, .ref a15, .int 0, .int 0, .ref a16, .int 0, .ref a17, .ref a18, .ref a19, .int 0, .ref a20, .ref a21, .long 0, .ref a22, .int 0])), (a2, .inl (G.2 0, 5740, .inl (upd (upd (upd (fun _ => 0) 3 (-1)) 4 1000) 6 (-1))))]) [0, 2] rfl
      have hDc := hD.sub (ws' := [(a0, .inr (12, [.int 0, .int 0, .ref a1, .ref a2, .ref a3, .ref a4, .int 0, .ref a5, .int 0, .int 0, .int 0, .int 0, .long 0, .int (-1), .int 0, .int 0, .ref a6, .int 0, .ref a7, .ref a8, .int 0, .ref a9, .ref a10, .int 0, .int 0, .ref a11, .ref a12, .int 0, .ref a13, .ref a14, .int 0, .long 0, .long 0, .int 0, .int 0, .int 0, .int 0, .int 0, .ref a15, .int 0, .int 0, .ref a16, .int 0, .ref a17, .ref a18, .ref a19, .int 0, .ref a20, .ref a21, .long 0, .ref a22, .int 0])), (a2, .inl (G.2 0, 5740, .inl (upd (upd (upd (fun _ => 0) 3 (-1)) 4 1000) 6 (-1))))]) [0, 2] (by decide) rfl
      have hFc := va_free (wc := [(a0, .inr (12, [.int 0, .int 0, .ref a1, .ref a2, .ref a3, .ref a4, .int 0, .ref a5, .int 0, .int 0, .int 0, .int 0, .long 0, .int (-1), .int 0, .int 0, .ref a6, .int 0, .ref a7, .ref a8, .int 0, .ref a9, .ref a10, .int 0, .int 0, .ref a11, .ref a12, .int 0, .ref a13, .ref a14, .int 0, .long 0, .long 0, .int 0, .int 0, .int 0, .int 0, .int 0, .ref a15, .int 0, .int 0, .ref a16, .int 0, .ref a17, .ref a18, .ref a19, .int 0, .ref a20, .ref a21, .long 0, .ref a22, .int 0])), (a2, .inl (G.2 0, 5740, .inl (upd (upd (upd (fun _ => 0) 3 (-1)) 4 1000) 6 (-1))))]) hD hS hA [0, 2] rfl
      refine va_calli (va_runV (As := [.int n0]) (rest := []) ⟨hx, hb, hml, hown, hts⟩ (kX12_isGlass l G a0 a1 a2 a3 a4 a5 a6 a7 a8 a9 a10 a11 a12 a13 a14 a15 a16 a17 a18 a19 a20 a21 a22 H.size n0) (cwV 1 hts gV_X12_170 rfl rfl rfl hv_X12_isGlass ⟨Nat.le_of_ble_eq_true rfl, Nat.le_of_ble_eq_true rfl⟩) (g5_preV hPc hK hDc hN hT hS hFc (ci := 12) (q0 := 0) rfl rfl) rfl rfl hl.1 rfl (lv_room (Nat.le_of_ble_eq_true rfl)) dX12_turn_21 ⟨Nat.le_of_ble_eq_true rfl, Nat.le_of_ble_eq_true rfl⟩) hS (fun q _ h => hFc q h) hFc (fun r u t H1 locs ht hvm hw hB hz1 hk1 hS => ?_)
      obtain ⟨hP1, hD1⟩ := hB
      rw [ht] at hP1
      obtain ⟨i_25, rfl, rfl⟩ := hw
      obtain ⟨hP, hD⟩ := va_join (wr := [(a1, .inl (G.2 0, 7, .inl (fun _ => 0)))]) (w1 := [(a0, .inr (12, [.int 0, .int 0, .ref a1, .ref a2, .ref a3, .ref a4, .int 0, .ref a5, .int 0, .int 0, .int 0, .int 0, .long 0, .int (-1), .int 0, .int 0, .ref a6, .int 0, .ref a7, .ref a8, .int 0, .ref a9, .ref a10, .int 0, .int 0, .ref a11, .ref a12, .int 0, .ref a13, .ref a14, .int 0, .long 0, .long 0, .int 0, .int 0, .int 0, .int 0, .int 0, .ref a15, .int 0, .int 0, .ref a16, .int 0, .ref a17, .ref a18, .ref a19, .int 0, .ref a20, .ref a21, .long 0, .ref a22, .int 0])), (a2, .inl (G.2 0, 5740, .inl (upd (upd (upd (fun _ => 0) 3 (-1)) 4 1000) 6 (-1))))]) hP hD [0, 2] [1] rfl rfl (by decide) (by decide) hk1 hFc hP1 hD1
      generalize H1 = H at hP hS ⊢
      have hP : va_P G.1 vwCl [(a1, .inl (G.2 0, 7, .inl (fun _ => 0))), (a0, .inr (12, [.int 0, .int 0, .ref a1, .ref a2, .ref a3, .ref a4, .int 0, .ref a5, .int 0, .int 0, .int 0, .int 0, .long 0, .int (-1), .int 0, .int 0, .ref a6, .int 0, .ref a7, .ref a8, .int 0, .ref a9, .ref a10, .int 0, .int 0, .ref a11, .ref a12, .int 0, .ref a13, .ref a14, .int 0, .long 0, .long 0, .int 0, .int 0, .int 0, .int 0, .int 0, .ref a15, .int 0, .int 0, .ref a16, .int 0, .ref a17, .ref a18, .ref a19, .int 0, .ref a20, .ref a21, .long 0, .ref a22, .int 0])), (a2, .inl (G.2 0, 5740, .inl (upd (upd (upd (fun _ => 0) 3 (-1)) 4 1000) 6 (-1))))] H := hP
      have hD : va_D A [(a1, .inl (G.2 0, 7, .inl (fun _ => 0))), (a0, .inr (12, [.int 0, .int 0, .ref a1, .ref a2, .ref a3, .ref a4, .int 0, .ref a5, .int 0, .int 0, .int 0, .int 0, .long 0, .int (-1), .int 0, .int 0, .ref a6, .int 0, .ref a7, .ref a8, .int 0, .ref a9, .ref a10, .int 0, .int 0, .ref a11, .ref a12, .int 0, .ref a13, .ref a14, .int 0, .long 0, .long 0, .int 0, .int 0, .int 0, .int 0, .int 0, .ref a15, .int 0, .int 0, .ref a16, .int 0, .ref a17, .ref a18, .ref a19, .int 0, .ref a20, .ref a21, .long 0, .ref a22, .int 0])), (a2, .inl (G.2 0, 5740, .inl (upd (upd (upd (fun _ => 0) 3 (-1)) 4 1000) 6 (-1))))] := hD
      refine lv_if_eq (tgt := 45) hx hb dX12_turn_24 (by decide) (fun c_26 => ?_) (fun c_26 => ?_)
      ·
        refine lv_aload_n hx hb dX12_turn_45 rfl (lv_at hl 0 rfl) ?_
        refine lv_bipush (v := (-2)) hx hb dX12_turn_46 (by decide) ?_
        have hPc := hP.sub (ws' := [(a0, .inr (12, [.int 0, .int 0, .ref a1, .ref a2, .ref a3, .ref a4, .int 0, .ref a5, .int 0, .int 0, .int 0, .int 0, .long 0, .int (-1), .int 0, .int 0, .ref a6, .int 0, .ref a7, .ref a8, .int 0, .ref a9, .ref a10, .int 0, .int 0, .ref a11, .ref a12, .int 0, .ref a13, .ref a14, .int 0, .long 0, .long 0, .int 0, .int 0, .int 0, .int 0, .int 0, .ref a15, .int 0, .int 0, .ref a16, .int 0, .ref a17, .ref a18, .ref a19, .int 0, .ref a20, .ref a21, .long 0, .ref a22, .int 0])), (a1, .inl (G.2 0, 7, .inl (fun _ => 0)))]) [1, 0] rfl
        have hDc := hD.sub (ws' := [(a0, .inr (12, [.int 0, .int 0, .ref a1, .ref a2, .ref a3, .ref a4, .int 0, .ref a5, .int 0, .int 0, .int 0, .int 0, .long 0, .int (-1), .int 0, .int 0, .ref a6, .int 0, .ref a7, .ref a8, .int 0, .ref a9, .ref a10, .int 0, .int 0, .ref a11, .ref a12, .int 0, .ref a13, .ref a14, .int 0, .long 0, .long 0, .int 0, .int 0, .int 0, .int 0, .int 0, .ref a15, .int 0, .int 0, .ref a16, .int 0, .ref a17, .ref a18, .ref a19, .int 0, .ref a20, .ref a21, .long 0, .ref a22, .int 0])), (a1, .inl (G.2 0, 7, .inl (fun _ => 0)))]) [1, 0] (by decide) rfl
        have hFc := va_free (wc := [(a0, .inr (12, [.int 0, .int 0, .ref a1, .ref a2, .ref a3, .ref a4, .int 0, .ref a5, .int 0, .int 0, .int 0, .int 0, .long 0, .int (-1), .int 0, .int 0, .ref a6, .int 0, .ref a7, .ref a8, .int 0, .ref a9, .ref a10, .int 0, .int 0, .ref a11, .ref a12, .int 0, .ref a13, .ref a14, .int 0, .long 0, .long 0, .int 0, .int 0, .int 0, .int 0, .int 0, .ref a15, .int 0, .int 0, .ref a16, .int 0, .ref a17, .ref a18, .ref a19, .int 0, .ref a20, .ref a21, .long 0, .ref a22, .int 0])), (a1, .inl (G.2 0, 7, .inl (fun _ => 0)))]) hD hS hA [1, 0] rfl
        refine va_calli (va_runV (As := [.int (-2)]) (rest := []) ⟨hx, hb, hml, hown, hts⟩ (kX12_tell_4 l G a0 a1 a2 a3 a4 a5 a6 a7 a8 a9 a10 a11 a12 a13 a14 a15 a16 a17 a18 a19 a20 a21 a22 H.size) (cwV 1 hts gV_X12_125 rfl rfl rfl hv_X12_tell ⟨Nat.le_of_ble_eq_true rfl, Nat.le_of_ble_eq_true rfl⟩) (g5_preV hPc hK hDc hN hT hS hFc (ci := 12) (q0 := 0) rfl rfl) rfl rfl hl.1 rfl (lv_room (Nat.le_of_ble_eq_true rfl)) dX12_turn_48 ⟨Nat.le_of_ble_eq_true rfl, Nat.le_of_ble_eq_true rfl⟩) hS (fun q _ h => hFc q h) hFc (fun r u t H1 locs ht hvm hw hB hz1 hk1 hS => ?_)
        obtain ⟨hP1, hD1⟩ := hB
        rw [ht] at hP1
        obtain ⟨rfl, rfl⟩ := hw
        obtain ⟨hP, hD⟩ := va_join (wr := [(a2, .inl (G.2 0, 5740, .inl (upd (upd (upd (fun _ => 0) 3 (-1)) 4 1000) 6 (-1))))]) (w1 := [(a0, .inr (12, [.int 0, .int (-2), .ref a1, .ref a2, .ref a3, .ref a4, .int 0, .ref a5, .int 0, .int 0, .int 0, .int 0, .long 0, .int (-1), .int 0, .int 0, .ref a6, .int 0, .ref a7, .ref a8, .int 0, .ref a9, .ref a10, .int 0, .int 0, .ref a11, .ref a12, .int 0, .ref a13, .ref a14, .int 0, .long 0, .long 0, .int 0, .int 0, .int 0, .int 0, .int 0, .ref a15, .int 0, .int 0, .ref a16, .int 0, .ref a17, .ref a18, .ref a19, .int 0, .ref a20, .ref a21, .long 0, .ref a22, .int 0])), (a1, .inl (G.2 0, 7, .inl (upd (fun _ => 0) 2 1)))]) hP hD [1, 0] [2] rfl rfl (by decide) (by decide) hk1 hFc hP1 hD1
        generalize H1 = H at hP hS ⊢
        have hP : va_P G.1 vwCl [(a2, .inl (G.2 0, 5740, .inl (upd (upd (upd (fun _ => 0) 3 (-1)) 4 1000) 6 (-1)))), (a0, .inr (12, [.int 0, .int (-2), .ref a1, .ref a2, .ref a3, .ref a4, .int 0, .ref a5, .int 0, .int 0, .int 0, .int 0, .long 0, .int (-1), .int 0, .int 0, .ref a6, .int 0, .ref a7, .ref a8, .int 0, .ref a9, .ref a10, .int 0, .int 0, .ref a11, .ref a12, .int 0, .ref a13, .ref a14, .int 0, .long 0, .long 0, .int 0, .int 0, .int 0, .int 0, .int 0, .ref a15, .int 0, .int 0, .ref a16, .int 0, .ref a17, .ref a18, .ref a19, .int 0, .ref a20, .ref a21, .long 0, .ref a22, .int 0])), (a1, .inl (G.2 0, 7, .inl (upd (fun _ => 0) 2 1)))] H := hP
        have hD : va_D A [(a2, .inl (G.2 0, 5740, .inl (upd (upd (upd (fun _ => 0) 3 (-1)) 4 1000) 6 (-1)))), (a0, .inr (12, [.int 0, .int (-2), .ref a1, .ref a2, .ref a3, .ref a4, .int 0, .ref a5, .int 0, .int 0, .int 0, .int 0, .long 0, .int (-1), .int 0, .int 0, .ref a6, .int 0, .ref a7, .ref a8, .int 0, .ref a9, .ref a10, .int 0, .int 0, .ref a11, .ref a12, .int 0, .ref a13, .ref a14, .int 0, .long 0, .long 0, .int 0, .int 0, .int 0, .int 0, .int 0, .ref a15, .int 0, .int 0, .ref a16, .int 0, .ref a17, .ref a18, .ref a19, .int 0, .ref a20, .ref a21, .long 0, .ref a22, .int 0])), (a1, .inl (G.2 0, 7, .inl (upd (fun _ => 0) 2 1)))] := hD
        have hP := hP.sub (ws' := []) [] rfl
        have hD := hD.sub (ws' := []) [] (by decide) rfl
        exact W.iret (v := (-2)) hx hb hr (fun t ht hW => ⟨⟨(-2), [], rfl, Or.inr (Or.inr (Or.inr (Or.inl (⟨i_7, i_8, i_25, rfl, rfl⟩)))), by rw [ht]; exact hP, hD⟩, hS.F ht⟩) hS.2.2 dX12_turn_51
      ·
        exact absurd c_26 (by decide)
    ·
      exact absurd c_24 (by decide)
  ·
    have hP := g5_same hP hk1
    generalize H1 = H at hP hS ⊢
    refine lv_if_ne (tgt := 19) hx hb dX12_turn_10 (by decide) (fun c_27 => ?_) (fun c_27 => ?_)
    ·
      exact absurd c_27 (by decide)
    ·
      refine lv_aload_n hx hb dX12_turn_13 rfl (lv_at hl 0 rfl) ?_
      refine lv_iconst (v := (-1)) hx hb dX12_turn_14 (by decide) ?_
      have hPc := hP.sub (ws' := [(a0, .inr (12, [.int 0, .int 0, .ref a1, .ref a2, .ref a3, .ref a4, .int 0, .ref a5, .int 0, .int 0, .int 0, .int 0, .long 0, .int (-1), .int 0, .int 0, .ref a6, .int 0, .ref a7, .ref a8, .int 0, .ref a9, .ref a10, .int 0, .int 0, .ref a11, .ref a12, .int 0, .ref a13, .ref a14, .int 0, .long 0, .long 0, .int 0, .int 0, .int 0, .int 0, .int 0, .ref a15, .int 0, .int 0, .ref a16, .int 0, .ref a17, .ref a18, .ref a19, .int 0, .ref a20, .ref a21, .long 0, .ref a22, .int 0])), (a1, .inl (G.2 0, 7, .inl (fun _ => 0)))]) [0, 1] rfl
      have hDc := hD.sub (ws' := [(a0, .inr (12, [.int 0, .int 0, .ref a1, .ref a2, .ref a3, .ref a4, .int 0, .ref a5, .int 0, .int 0, .int 0, .int 0, .long 0, .int (-1), .int 0, .int 0, .ref a6, .int 0, .ref a7, .ref a8, .int 0, .ref a9, .ref a10, .int 0, .int 0, .ref a11, .ref a12, .int 0, .ref a13, .ref a14, .int 0, .long 0, .long 0, .int 0, .int 0, .int 0, .int 0, .int 0, .ref a15, .int 0, .int 0, .ref a16, .int 0, .ref a17, .ref a18, .ref a19, .int 0, .ref a20, .ref a21, .long 0, .ref a22, .int 0])), (a1, .inl (G.2 0, 7, .inl (fun _ => 0)))]) [0, 1] (by decide) rfl
      have hFc := va_free (wc := [(a0, .inr (12, [.int 0, .int 0, .ref a1, .ref a2, .ref a3, .ref a4, .int 0, .ref a5, .int 0, .int 0, .int 0, .int 0, .long 0, .int (-1), .int 0, .int 0, .ref a6, .int 0, .ref a7, .ref a8, .int 0, .ref a9, .ref a10, .int 0, .int 0, .ref a11, .ref a12, .int 0, .ref a13, .ref a14, .int 0, .long 0, .long 0, .int 0, .int 0, .int 0, .int 0, .int 0, .ref a15, .int 0, .int 0, .ref a16, .int 0, .ref a17, .ref a18, .ref a19, .int 0, .ref a20, .ref a21, .long 0, .ref a22, .int 0])), (a1, .inl (G.2 0, 7, .inl (fun _ => 0)))]) hD hS hA [0, 1] rfl
      refine va_calli (va_runV (As := [.int (-1)]) (rest := []) ⟨hx, hb, hml, hown, hts⟩ (kX12_tell l G a0 a1 a2 a3 a4 a5 a6 a7 a8 a9 a10 a11 a12 a13 a14 a15 a16 a17 a18 a19 a20 a21 a22 H.size) (cwV 1 hts gV_X12_125 rfl rfl rfl hv_X12_tell ⟨Nat.le_of_ble_eq_true rfl, Nat.le_of_ble_eq_true rfl⟩) (g5_preV hPc hK hDc hN hT hS hFc (ci := 12) (q0 := 0) rfl rfl) rfl rfl hl.1 rfl (lv_room (Nat.le_of_ble_eq_true rfl)) dX12_turn_15 ⟨Nat.le_of_ble_eq_true rfl, Nat.le_of_ble_eq_true rfl⟩) hS (fun q _ h => hFc q h) hFc (fun r u t H1 locs ht hvm hw hB hz1 hk1 hS => ?_)
      obtain ⟨hP1, hD1⟩ := hB
      rw [ht] at hP1
      obtain ⟨rfl, rfl⟩ := hw
      obtain ⟨hP, hD⟩ := va_join (wr := [(a2, .inl (G.2 0, 5740, .inl (upd (upd (upd (fun _ => 0) 3 (-1)) 4 1000) 6 (-1))))]) (w1 := [(a0, .inr (12, [.int 0, .int (-1), .ref a1, .ref a2, .ref a3, .ref a4, .int 0, .ref a5, .int 0, .int 0, .int 0, .int 0, .long 0, .int (-1), .int 0, .int 0, .ref a6, .int 0, .ref a7, .ref a8, .int 0, .ref a9, .ref a10, .int 0, .int 0, .ref a11, .ref a12, .int 0, .ref a13, .ref a14, .int 0, .long 0, .long 0, .int 0, .int 0, .int 0, .int 0, .int 0, .ref a15, .int 0, .int 0, .ref a16, .int 0, .ref a17, .ref a18, .ref a19, .int 0, .ref a20, .ref a21, .long 0, .ref a22, .int 0])), (a1, .inl (G.2 0, 7, .inl (upd (fun _ => 0) 1 1)))]) hP hD [0, 1] [2] rfl rfl (by decide) (by decide) hk1 hFc hP1 hD1
      generalize H1 = H at hP hS ⊢
      have hP : va_P G.1 vwCl [(a2, .inl (G.2 0, 5740, .inl (upd (upd (upd (fun _ => 0) 3 (-1)) 4 1000) 6 (-1)))), (a0, .inr (12, [.int 0, .int (-1), .ref a1, .ref a2, .ref a3, .ref a4, .int 0, .ref a5, .int 0, .int 0, .int 0, .int 0, .long 0, .int (-1), .int 0, .int 0, .ref a6, .int 0, .ref a7, .ref a8, .int 0, .ref a9, .ref a10, .int 0, .int 0, .ref a11, .ref a12, .int 0, .ref a13, .ref a14, .int 0, .long 0, .long 0, .int 0, .int 0, .int 0, .int 0, .int 0, .ref a15, .int 0, .int 0, .ref a16, .int 0, .ref a17, .ref a18, .ref a19, .int 0, .ref a20, .ref a21, .long 0, .ref a22, .int 0])), (a1, .inl (G.2 0, 7, .inl (upd (fun _ => 0) 1 1)))] H := hP
      have hD : va_D A [(a2, .inl (G.2 0, 5740, .inl (upd (upd (upd (fun _ => 0) 3 (-1)) 4 1000) 6 (-1)))), (a0, .inr (12, [.int 0, .int (-1), .ref a1, .ref a2, .ref a3, .ref a4, .int 0, .ref a5, .int 0, .int 0, .int 0, .int 0, .long 0, .int (-1), .int 0, .int 0, .ref a6, .int 0, .ref a7, .ref a8, .int 0, .ref a9, .ref a10, .int 0, .int 0, .ref a11, .ref a12, .int 0, .ref a13, .ref a14, .int 0, .long 0, .long 0, .int 0, .int 0, .int 0, .int 0, .int 0, .ref a15, .int 0, .int 0, .ref a16, .int 0, .ref a17, .ref a18, .ref a19, .int 0, .ref a20, .ref a21, .long 0, .ref a22, .int 0])), (a1, .inl (G.2 0, 7, .inl (upd (fun _ => 0) 1 1)))] := hD
      have hP := hP.sub (ws' := []) [] rfl
      have hD := hD.sub (ws' := []) [] (by decide) rfl
      exact W.iret (v := (-1)) hx hb hr (fun t ht hW => ⟨⟨(-1), [], rfl, Or.inr (Or.inr (Or.inr (Or.inr (Or.inl (⟨i_9, i_10, rfl, rfl⟩))))), by rw [ht]; exact hP, hD⟩, hS.F ht⟩) hS.2.2 dX12_turn_18
  ·
    have hP := g5_same hP hk1
    generalize H1 = H at hP hS ⊢
    refine lv_if_ne (tgt := 19) hx hb dX12_turn_10 (by decide) (fun c_28 => ?_) (fun c_28 => ?_)
    ·
      refine lv_aload_n hx hb dX12_turn_19 rfl (lv_at hl 0 rfl) ?_
      refine lv_iload_n hx hb dX12_turn_20 rfl (lv_at hl 1 rfl) ?_
      have hPc := hP.sub (ws' := [(a0, .inr (12, [.int 0, .int 0, .ref a1, .ref a2, .ref a3, .ref a4, .int 0, .ref a5, .int 0, .int 0, .int 0, .int 0, .long 0, .int (-1), .int 0, .int 0, .ref a6, .int 0, .ref a7, .ref a8, .int 0, .ref a9, .ref a10, .int 0, .int 0, .ref a11, .ref a12, .int 0, .ref a13, .ref a14, .int 0, .long 0, .long 0, .int 0, .int 0, .int 0, .int 0, .int 0, .ref a15, .int 0, .int 0, .ref a16, .int 0, .ref a17, .ref a18, .ref a19, .int 0, .ref a20, .ref a21, .long 0, .ref a22, .int 0])), (a2, .inl (G.2 0, 5740, .inl (upd (upd (upd (fun _ => 0) 3 (-1)) 4 1000) 6 (-1))))]) [0, 2] rfl
      have hDc := hD.sub (ws' := [(a0, .inr (12, [.int 0, .int 0, .ref a1, .ref a2, .ref a3, .ref a4, .int 0, .ref a5, .int 0, .int 0, .int 0, .int 0, .long 0, .int (-1), .int 0, .int 0, .ref a6, .int 0, .ref a7, .ref a8, .int 0, .ref a9, .ref a10, .int 0, .int 0, .ref a11, .ref a12, .int 0, .ref a13, .ref a14, .int 0, .long 0, .long 0, .int 0, .int 0, .int 0, .int 0, .int 0, .ref a15, .int 0, .int 0, .ref a16, .int 0, .ref a17, .ref a18, .ref a19, .int 0, .ref a20, .ref a21, .long 0, .ref a22, .int 0])), (a2, .inl (G.2 0, 5740, .inl (upd (upd (upd (fun _ => 0) 3 (-1)) 4 1000) 6 (-1))))]) [0, 2] (by decide) rfl
      have hFc := va_free (wc := [(a0, .inr (12, [.int 0, .int 0, .ref a1, .ref a2, .ref a3, .ref a4, .int 0, .ref a5, .int 0, .int 0, .int 0, .int 0, .long 0, .int (-1), .int 0, .int 0, .ref a6, .int 0, .ref a7, .ref a8, .int 0, .ref a9, .ref a10, .int 0, .int 0, .ref a11, .ref a12, .int 0, .ref a13, .ref a14, .int 0, .long 0, .long 0, .int 0, .int 0, .int 0, .int 0, .int 0, .ref a15, .int 0, .int 0, .ref a16, .int 0, .ref a17, .ref a18, .ref a19, .int 0, .ref a20, .ref a21, .long 0, .ref a22, .int 0])), (a2, .inl (G.2 0, 5740, .inl (upd (upd (upd (fun _ => 0) 3 (-1)) 4 1000) 6 (-1))))]) hD hS hA [0, 2] rfl
      refine va_calli (va_runV (As := [.int n0]) (rest := []) ⟨hx, hb, hml, hown, hts⟩ (kX12_isGlass l G a0 a1 a2 a3 a4 a5 a6 a7 a8 a9 a10 a11 a12 a13 a14 a15 a16 a17 a18 a19 a20 a21 a22 H.size n0) (cwV 1 hts gV_X12_170 rfl rfl rfl hv_X12_isGlass ⟨Nat.le_of_ble_eq_true rfl, Nat.le_of_ble_eq_true rfl⟩) (g5_preV hPc hK hDc hN hT hS hFc (ci := 12) (q0 := 0) rfl rfl) rfl rfl hl.1 rfl (lv_room (Nat.le_of_ble_eq_true rfl)) dX12_turn_21 ⟨Nat.le_of_ble_eq_true rfl, Nat.le_of_ble_eq_true rfl⟩) hS (fun q _ h => hFc q h) hFc (fun r u t H1 locs ht hvm hw hB hz1 hk1 hS => ?_)
      obtain ⟨hP1, hD1⟩ := hB
      rw [ht] at hP1
      obtain ⟨i_29, rfl, rfl⟩ := hw
      obtain ⟨hP, hD⟩ := va_join (wr := [(a1, .inl (G.2 0, 7, .inl (fun _ => 0)))]) (w1 := [(a0, .inr (12, [.int 0, .int 0, .ref a1, .ref a2, .ref a3, .ref a4, .int 0, .ref a5, .int 0, .int 0, .int 0, .int 0, .long 0, .int (-1), .int 0, .int 0, .ref a6, .int 0, .ref a7, .ref a8, .int 0, .ref a9, .ref a10, .int 0, .int 0, .ref a11, .ref a12, .int 0, .ref a13, .ref a14, .int 0, .long 0, .long 0, .int 0, .int 0, .int 0, .int 0, .int 0, .ref a15, .int 0, .int 0, .ref a16, .int 0, .ref a17, .ref a18, .ref a19, .int 0, .ref a20, .ref a21, .long 0, .ref a22, .int 0])), (a2, .inl (G.2 0, 5740, .inl (upd (upd (upd (fun _ => 0) 3 (-1)) 4 1000) 6 (-1))))]) hP hD [0, 2] [1] rfl rfl (by decide) (by decide) hk1 hFc hP1 hD1
      generalize H1 = H at hP hS ⊢
      have hP : va_P G.1 vwCl [(a1, .inl (G.2 0, 7, .inl (fun _ => 0))), (a0, .inr (12, [.int 0, .int 0, .ref a1, .ref a2, .ref a3, .ref a4, .int 0, .ref a5, .int 0, .int 0, .int 0, .int 0, .long 0, .int (-1), .int 0, .int 0, .ref a6, .int 0, .ref a7, .ref a8, .int 0, .ref a9, .ref a10, .int 0, .int 0, .ref a11, .ref a12, .int 0, .ref a13, .ref a14, .int 0, .long 0, .long 0, .int 0, .int 0, .int 0, .int 0, .int 0, .ref a15, .int 0, .int 0, .ref a16, .int 0, .ref a17, .ref a18, .ref a19, .int 0, .ref a20, .ref a21, .long 0, .ref a22, .int 0])), (a2, .inl (G.2 0, 5740, .inl (upd (upd (upd (fun _ => 0) 3 (-1)) 4 1000) 6 (-1))))] H := hP
      have hD : va_D A [(a1, .inl (G.2 0, 7, .inl (fun _ => 0))), (a0, .inr (12, [.int 0, .int 0, .ref a1, .ref a2, .ref a3, .ref a4, .int 0, .ref a5, .int 0, .int 0, .int 0, .int 0, .long 0, .int (-1), .int 0, .int 0, .ref a6, .int 0, .ref a7, .ref a8, .int 0, .ref a9, .ref a10, .int 0, .int 0, .ref a11, .ref a12, .int 0, .ref a13, .ref a14, .int 0, .long 0, .long 0, .int 0, .int 0, .int 0, .int 0, .int 0, .ref a15, .int 0, .int 0, .ref a16, .int 0, .ref a17, .ref a18, .ref a19, .int 0, .ref a20, .ref a21, .long 0, .ref a22, .int 0])), (a2, .inl (G.2 0, 5740, .inl (upd (upd (upd (fun _ => 0) 3 (-1)) 4 1000) 6 (-1))))] := hD
      refine lv_if_eq (tgt := 45) hx hb dX12_turn_24 (by decide) (fun c_30 => ?_) (fun c_30 => ?_)
      ·
        refine lv_aload_n hx hb dX12_turn_45 rfl (lv_at hl 0 rfl) ?_
        refine lv_bipush (v := (-2)) hx hb dX12_turn_46 (by decide) ?_
        have hPc := hP.sub (ws' := [(a0, .inr (12, [.int 0, .int 0, .ref a1, .ref a2, .ref a3, .ref a4, .int 0, .ref a5, .int 0, .int 0, .int 0, .int 0, .long 0, .int (-1), .int 0, .int 0, .ref a6, .int 0, .ref a7, .ref a8, .int 0, .ref a9, .ref a10, .int 0, .int 0, .ref a11, .ref a12, .int 0, .ref a13, .ref a14, .int 0, .long 0, .long 0, .int 0, .int 0, .int 0, .int 0, .int 0, .ref a15, .int 0, .int 0, .ref a16, .int 0, .ref a17, .ref a18, .ref a19, .int 0, .ref a20, .ref a21, .long 0, .ref a22, .int 0])), (a1, .inl (G.2 0, 7, .inl (fun _ => 0)))]) [1, 0] rfl
        have hDc := hD.sub (ws' := [(a0, .inr (12, [.int 0, .int 0, .ref a1, .ref a2, .ref a3, .ref a4, .int 0, .ref a5, .int 0, .int 0, .int 0, .int 0, .long 0, .int (-1), .int 0, .int 0, .ref a6, .int 0, .ref a7, .ref a8, .int 0, .ref a9, .ref a10, .int 0, .int 0, .ref a11, .ref a12, .int 0, .ref a13, .ref a14, .int 0, .long 0, .long 0, .int 0, .int 0, .int 0, .int 0, .int 0, .ref a15, .int 0, .int 0, .ref a16, .int 0, .ref a17, .ref a18, .ref a19, .int 0, .ref a20, .ref a21, .long 0, .ref a22, .int 0])), (a1, .inl (G.2 0, 7, .inl (fun _ => 0)))]) [1, 0] (by decide) rfl
        have hFc := va_free (wc := [(a0, .inr (12, [.int 0, .int 0, .ref a1, .ref a2, .ref a3, .ref a4, .int 0, .ref a5, .int 0, .int 0, .int 0, .int 0, .long 0, .int (-1), .int 0, .int 0, .ref a6, .int 0, .ref a7, .ref a8, .int 0, .ref a9, .ref a10, .int 0, .int 0, .ref a11, .ref a12, .int 0, .ref a13, .ref a14, .int 0, .long 0, .long 0, .int 0, .int 0, .int 0, .int 0, .int 0, .ref a15, .int 0, .int 0, .ref a16, .int 0, .ref a17, .ref a18, .ref a19, .int 0, .ref a20, .ref a21, .long 0, .ref a22, .int 0])), (a1, .inl (G.2 0, 7, .inl (fun _ => 0)))]) hD hS hA [1, 0] rfl
        refine va_calli (va_runV (As := [.int (-2)]) (rest := []) ⟨hx, hb, hml, hown, hts⟩ (kX12_tell_4 l G a0 a1 a2 a3 a4 a5 a6 a7 a8 a9 a10 a11 a12 a13 a14 a15 a16 a17 a18 a19 a20 a21 a22 H.size) (cwV 1 hts gV_X12_125 rfl rfl rfl hv_X12_tell ⟨Nat.le_of_ble_eq_true rfl, Nat.le_of_ble_eq_true rfl⟩) (g5_preV hPc hK hDc hN hT hS hFc (ci := 12) (q0 := 0) rfl rfl) rfl rfl hl.1 rfl (lv_room (Nat.le_of_ble_eq_true rfl)) dX12_turn_48 ⟨Nat.le_of_ble_eq_true rfl, Nat.le_of_ble_eq_true rfl⟩) hS (fun q _ h => hFc q h) hFc (fun r u t H1 locs ht hvm hw hB hz1 hk1 hS => ?_)
        obtain ⟨hP1, hD1⟩ := hB
        rw [ht] at hP1
        obtain ⟨rfl, rfl⟩ := hw
        obtain ⟨hP, hD⟩ := va_join (wr := [(a2, .inl (G.2 0, 5740, .inl (upd (upd (upd (fun _ => 0) 3 (-1)) 4 1000) 6 (-1))))]) (w1 := [(a0, .inr (12, [.int 0, .int (-2), .ref a1, .ref a2, .ref a3, .ref a4, .int 0, .ref a5, .int 0, .int 0, .int 0, .int 0, .long 0, .int (-1), .int 0, .int 0, .ref a6, .int 0, .ref a7, .ref a8, .int 0, .ref a9, .ref a10, .int 0, .int 0, .ref a11, .ref a12, .int 0, .ref a13, .ref a14, .int 0, .long 0, .long 0, .int 0, .int 0, .int 0, .int 0, .int 0, .ref a15, .int 0, .int 0, .ref a16, .int 0, .ref a17, .ref a18, .ref a19, .int 0, .ref a20, .ref a21, .long 0, .ref a22, .int 0])), (a1, .inl (G.2 0, 7, .inl (upd (fun _ => 0) 2 1)))]) hP hD [1, 0] [2] rfl rfl (by decide) (by decide) hk1 hFc hP1 hD1
        generalize H1 = H at hP hS ⊢
        have hP : va_P G.1 vwCl [(a2, .inl (G.2 0, 5740, .inl (upd (upd (upd (fun _ => 0) 3 (-1)) 4 1000) 6 (-1)))), (a0, .inr (12, [.int 0, .int (-2), .ref a1, .ref a2, .ref a3, .ref a4, .int 0, .ref a5, .int 0, .int 0, .int 0, .int 0, .long 0, .int (-1), .int 0, .int 0, .ref a6, .int 0, .ref a7, .ref a8, .int 0, .ref a9, .ref a10, .int 0, .int 0, .ref a11, .ref a12, .int 0, .ref a13, .ref a14, .int 0, .long 0, .long 0, .int 0, .int 0, .int 0, .int 0, .int 0, .ref a15, .int 0, .int 0, .ref a16, .int 0, .ref a17, .ref a18, .ref a19, .int 0, .ref a20, .ref a21, .long 0, .ref a22, .int 0])), (a1, .inl (G.2 0, 7, .inl (upd (fun _ => 0) 2 1)))] H := hP
        have hD : va_D A [(a2, .inl (G.2 0, 5740, .inl (upd (upd (upd (fun _ => 0) 3 (-1)) 4 1000) 6 (-1)))), (a0, .inr (12, [.int 0, .int (-2), .ref a1, .ref a2, .ref a3, .ref a4, .int 0, .ref a5, .int 0, .int 0, .int 0, .int 0, .long 0, .int (-1), .int 0, .int 0, .ref a6, .int 0, .ref a7, .ref a8, .int 0, .ref a9, .ref a10, .int 0, .int 0, .ref a11, .ref a12, .int 0, .ref a13, .ref a14, .int 0, .long 0, .long 0, .int 0, .int 0, .int 0, .int 0, .int 0, .ref a15, .int 0, .int 0, .ref a16, .int 0, .ref a17, .ref a18, .ref a19, .int 0, .ref a20, .ref a21, .long 0, .ref a22, .int 0])), (a1, .inl (G.2 0, 7, .inl (upd (fun _ => 0) 2 1)))] := hD
        have hP := hP.sub (ws' := []) [] rfl
        have hD := hD.sub (ws' := []) [] (by decide) rfl
        exact W.iret (v := (-2)) hx hb hr (fun t ht hW => ⟨⟨(-2), [], rfl, Or.inr (Or.inr (Or.inr (Or.inr (Or.inr (Or.inl (⟨i_11, i_12, i_29, rfl, rfl⟩)))))), by rw [ht]; exact hP, hD⟩, hS.F ht⟩) hS.2.2 dX12_turn_51
      ·
        exact absurd c_30 (by decide)
    ·
      exact absurd c_28 (by decide)
  ·
    have hP := g5_same hP hk1
    generalize H1 = H at hP hS ⊢
    refine lv_if_ne (tgt := 19) hx hb dX12_turn_10 (by decide) (fun c_31 => ?_) (fun c_31 => ?_)
    ·
      exact absurd c_31 (by decide)
    ·
      refine lv_aload_n hx hb dX12_turn_13 rfl (lv_at hl 0 rfl) ?_
      refine lv_iconst (v := (-1)) hx hb dX12_turn_14 (by decide) ?_
      have hPc := hP.sub (ws' := [(a0, .inr (12, [.int 0, .int 0, .ref a1, .ref a2, .ref a3, .ref a4, .int 0, .ref a5, .int 0, .int 0, .int 0, .int 0, .long 0, .int (-1), .int 0, .int 0, .ref a6, .int 0, .ref a7, .ref a8, .int 0, .ref a9, .ref a10, .int 0, .int 0, .ref a11, .ref a12, .int 0, .ref a13, .ref a14, .int 0, .long 0, .long 0, .int 0, .int 0, .int 0, .int 0, .int 0, .ref a15, .int 0, .int 0, .ref a16, .int 0, .ref a17, .ref a18, .ref a19, .int 0, .ref a20, .ref a21, .long 0, .ref a22, .int 0])), (a1, .inl (G.2 0, 7, .inl (fun _ => 0)))]) [0, 1] rfl
      have hDc := hD.sub (ws' := [(a0, .inr (12, [.int 0, .int 0, .ref a1, .ref a2, .ref a3, .ref a4, .int 0, .ref a5, .int 0, .int 0, .int 0, .int 0, .long 0, .int (-1), .int 0, .int 0, .ref a6, .int 0, .ref a7, .ref a8, .int 0, .ref a9, .ref a10, .int 0, .int 0, .ref a11, .ref a12, .int 0, .ref a13, .ref a14, .int 0, .long 0, .long 0, .int 0, .int 0, .int 0, .int 0, .int 0, .ref a15, .int 0, .int 0, .ref a16, .int 0, .ref a17, .ref a18, .ref a19, .int 0, .ref a20, .ref a21, .long 0, .ref a22, .int 0])), (a1, .inl (G.2 0, 7, .inl (fun _ => 0)))]) [0, 1] (by decide) rfl
      have hFc := va_free (wc := [(a0, .inr (12, [.int 0, .int 0, .ref a1, .ref a2, .ref a3, .ref a4, .int 0, .ref a5, .int 0, .int 0, .int 0, .int 0, .long 0, .int (-1), .int 0, .int 0, .ref a6, .int 0, .ref a7, .ref a8, .int 0, .ref a9, .ref a10, .int 0, .int 0, .ref a11, .ref a12, .int 0, .ref a13, .ref a14, .int 0, .long 0, .long 0, .int 0, .int 0, .int 0, .int 0, .int 0, .ref a15, .int 0, .int 0, .ref a16, .int 0, .ref a17, .ref a18, .ref a19, .int 0, .ref a20, .ref a21, .long 0, .ref a22, .int 0])), (a1, .inl (G.2 0, 7, .inl (fun _ => 0)))]) hD hS hA [0, 1] rfl
      refine va_calli (va_runV (As := [.int (-1)]) (rest := []) ⟨hx, hb, hml, hown, hts⟩ (kX12_tell l G a0 a1 a2 a3 a4 a5 a6 a7 a8 a9 a10 a11 a12 a13 a14 a15 a16 a17 a18 a19 a20 a21 a22 H.size) (cwV 1 hts gV_X12_125 rfl rfl rfl hv_X12_tell ⟨Nat.le_of_ble_eq_true rfl, Nat.le_of_ble_eq_true rfl⟩) (g5_preV hPc hK hDc hN hT hS hFc (ci := 12) (q0 := 0) rfl rfl) rfl rfl hl.1 rfl (lv_room (Nat.le_of_ble_eq_true rfl)) dX12_turn_15 ⟨Nat.le_of_ble_eq_true rfl, Nat.le_of_ble_eq_true rfl⟩) hS (fun q _ h => hFc q h) hFc (fun r u t H1 locs ht hvm hw hB hz1 hk1 hS => ?_)
      obtain ⟨hP1, hD1⟩ := hB
      rw [ht] at hP1
      obtain ⟨rfl, rfl⟩ := hw
      obtain ⟨hP, hD⟩ := va_join (wr := [(a2, .inl (G.2 0, 5740, .inl (upd (upd (upd (fun _ => 0) 3 (-1)) 4 1000) 6 (-1))))]) (w1 := [(a0, .inr (12, [.int 0, .int (-1), .ref a1, .ref a2, .ref a3, .ref a4, .int 0, .ref a5, .int 0, .int 0, .int 0, .int 0, .long 0, .int (-1), .int 0, .int 0, .ref a6, .int 0, .ref a7, .ref a8, .int 0, .ref a9, .ref a10, .int 0, .int 0, .ref a11, .ref a12, .int 0, .ref a13, .ref a14, .int 0, .long 0, .long 0, .int 0, .int 0, .int 0, .int 0, .int 0, .ref a15, .int 0, .int 0, .ref a16, .int 0, .ref a17, .ref a18, .ref a19, .int 0, .ref a20, .ref a21, .long 0, .ref a22, .int 0])), (a1, .inl (G.2 0, 7, .inl (upd (fun _ => 0) 1 1)))]) hP hD [0, 1] [2] rfl rfl (by decide) (by decide) hk1 hFc hP1 hD1
      generalize H1 = H at hP hS ⊢
      have hP : va_P G.1 vwCl [(a2, .inl (G.2 0, 5740, .inl (upd (upd (upd (fun _ => 0) 3 (-1)) 4 1000) 6 (-1)))), (a0, .inr (12, [.int 0, .int (-1), .ref a1, .ref a2, .ref a3, .ref a4, .int 0, .ref a5, .int 0, .int 0, .int 0, .int 0, .long 0, .int (-1), .int 0, .int 0, .ref a6, .int 0, .ref a7, .ref a8, .int 0, .ref a9, .ref a10, .int 0, .int 0, .ref a11, .ref a12, .int 0, .ref a13, .ref a14, .int 0, .long 0, .long 0, .int 0, .int 0, .int 0, .int 0, .int 0, .ref a15, .int 0, .int 0, .ref a16, .int 0, .ref a17, .ref a18, .ref a19, .int 0, .ref a20, .ref a21, .long 0, .ref a22, .int 0])), (a1, .inl (G.2 0, 7, .inl (upd (fun _ => 0) 1 1)))] H := hP
      have hD : va_D A [(a2, .inl (G.2 0, 5740, .inl (upd (upd (upd (fun _ => 0) 3 (-1)) 4 1000) 6 (-1)))), (a0, .inr (12, [.int 0, .int (-1), .ref a1, .ref a2, .ref a3, .ref a4, .int 0, .ref a5, .int 0, .int 0, .int 0, .int 0, .long 0, .int (-1), .int 0, .int 0, .ref a6, .int 0, .ref a7, .ref a8, .int 0, .ref a9, .ref a10, .int 0, .int 0, .ref a11, .ref a12, .int 0, .ref a13, .ref a14, .int 0, .long 0, .long 0, .int 0, .int 0, .int 0, .int 0, .int 0, .ref a15, .int 0, .int 0, .ref a16, .int 0, .ref a17, .ref a18, .ref a19, .int 0, .ref a20, .ref a21, .long 0, .ref a22, .int 0])), (a1, .inl (G.2 0, 7, .inl (upd (fun _ => 0) 1 1)))] := hD
      have hP := hP.sub (ws' := []) [] rfl
      have hD := hD.sub (ws' := []) [] (by decide) rfl
      exact W.iret (v := (-1)) hx hb hr (fun t ht hW => ⟨⟨(-1), [], rfl, Or.inr (Or.inr (Or.inr (Or.inr (Or.inr (Or.inr (Or.inl (⟨i_13, i_14, rfl, rfl⟩))))))), by rw [ht]; exact hP, hD⟩, hS.F ht⟩) hS.2.2 dX12_turn_18
  ·
    have hP := g5_same hP hk1
    generalize H1 = H at hP hS ⊢
    refine lv_if_ne (tgt := 19) hx hb dX12_turn_10 (by decide) (fun c_32 => ?_) (fun c_32 => ?_)
    ·
      refine lv_aload_n hx hb dX12_turn_19 rfl (lv_at hl 0 rfl) ?_
      refine lv_iload_n hx hb dX12_turn_20 rfl (lv_at hl 1 rfl) ?_
      have hPc := hP.sub (ws' := [(a0, .inr (12, [.int 0, .int 0, .ref a1, .ref a2, .ref a3, .ref a4, .int 0, .ref a5, .int 0, .int 0, .int 0, .int 0, .long 0, .int (-1), .int 0, .int 0, .ref a6, .int 0, .ref a7, .ref a8, .int 0, .ref a9, .ref a10, .int 0, .int 0, .ref a11, .ref a12, .int 0, .ref a13, .ref a14, .int 0, .long 0, .long 0, .int 0, .int 0, .int 0, .int 0, .int 0, .ref a15, .int 0, .int 0, .ref a16, .int 0, .ref a17, .ref a18, .ref a19, .int 0, .ref a20, .ref a21, .long 0, .ref a22, .int 0])), (a2, .inl (G.2 0, 5740, .inl (upd (upd (upd (fun _ => 0) 3 (-1)) 4 1000) 6 (-1))))]) [0, 2] rfl
      have hDc := hD.sub (ws' := [(a0, .inr (12, [.int 0, .int 0, .ref a1, .ref a2, .ref a3, .ref a4, .int 0, .ref a5, .int 0, .int 0, .int 0, .int 0, .long 0, .int (-1), .int 0, .int 0, .ref a6, .int 0, .ref a7, .ref a8, .int 0, .ref a9, .ref a10, .int 0, .int 0, .ref a11, .ref a12, .int 0, .ref a13, .ref a14, .int 0, .long 0, .long 0, .int 0, .int 0, .int 0, .int 0, .int 0, .ref a15, .int 0, .int 0, .ref a16, .int 0, .ref a17, .ref a18, .ref a19, .int 0, .ref a20, .ref a21, .long 0, .ref a22, .int 0])), (a2, .inl (G.2 0, 5740, .inl (upd (upd (upd (fun _ => 0) 3 (-1)) 4 1000) 6 (-1))))]) [0, 2] (by decide) rfl
      have hFc := va_free (wc := [(a0, .inr (12, [.int 0, .int 0, .ref a1, .ref a2, .ref a3, .ref a4, .int 0, .ref a5, .int 0, .int 0, .int 0, .int 0, .long 0, .int (-1), .int 0, .int 0, .ref a6, .int 0, .ref a7, .ref a8, .int 0, .ref a9, .ref a10, .int 0, .int 0, .ref a11, .ref a12, .int 0, .ref a13, .ref a14, .int 0, .long 0, .long 0, .int 0, .int 0, .int 0, .int 0, .int 0, .ref a15, .int 0, .int 0, .ref a16, .int 0, .ref a17, .ref a18, .ref a19, .int 0, .ref a20, .ref a21, .long 0, .ref a22, .int 0])), (a2, .inl (G.2 0, 5740, .inl (upd (upd (upd (fun _ => 0) 3 (-1)) 4 1000) 6 (-1))))]) hD hS hA [0, 2] rfl
      refine va_calli (va_runV (As := [.int n0]) (rest := []) ⟨hx, hb, hml, hown, hts⟩ (kX12_isGlass l G a0 a1 a2 a3 a4 a5 a6 a7 a8 a9 a10 a11 a12 a13 a14 a15 a16 a17 a18 a19 a20 a21 a22 H.size n0) (cwV 1 hts gV_X12_170 rfl rfl rfl hv_X12_isGlass ⟨Nat.le_of_ble_eq_true rfl, Nat.le_of_ble_eq_true rfl⟩) (g5_preV hPc hK hDc hN hT hS hFc (ci := 12) (q0 := 0) rfl rfl) rfl rfl hl.1 rfl (lv_room (Nat.le_of_ble_eq_true rfl)) dX12_turn_21 ⟨Nat.le_of_ble_eq_true rfl, Nat.le_of_ble_eq_true rfl⟩) hS (fun q _ h => hFc q h) hFc (fun r u t H1 locs ht hvm hw hB hz1 hk1 hS => ?_)
      obtain ⟨hP1, hD1⟩ := hB
      rw [ht] at hP1
      obtain ⟨i_33, rfl, rfl⟩ := hw
      obtain ⟨hP, hD⟩ := va_join (wr := [(a1, .inl (G.2 0, 7, .inl (fun _ => 0)))]) (w1 := [(a0, .inr (12, [.int 0, .int 0, .ref a1, .ref a2, .ref a3, .ref a4, .int 0, .ref a5, .int 0, .int 0, .int 0, .int 0, .long 0, .int (-1), .int 0, .int 0, .ref a6, .int 0, .ref a7, .ref a8, .int 0, .ref a9, .ref a10, .int 0, .int 0, .ref a11, .ref a12, .int 0, .ref a13, .ref a14, .int 0, .long 0, .long 0, .int 0, .int 0, .int 0, .int 0, .int 0, .ref a15, .int 0, .int 0, .ref a16, .int 0, .ref a17, .ref a18, .ref a19, .int 0, .ref a20, .ref a21, .long 0, .ref a22, .int 0])), (a2, .inl (G.2 0, 5740, .inl (upd (upd (upd (fun _ => 0) 3 (-1)) 4 1000) 6 (-1))))]) hP hD [0, 2] [1] rfl rfl (by decide) (by decide) hk1 hFc hP1 hD1
      generalize H1 = H at hP hS ⊢
      have hP : va_P G.1 vwCl [(a1, .inl (G.2 0, 7, .inl (fun _ => 0))), (a0, .inr (12, [.int 0, .int 0, .ref a1, .ref a2, .ref a3, .ref a4, .int 0, .ref a5, .int 0, .int 0, .int 0, .int 0, .long 0, .int (-1), .int 0, .int 0, .ref a6, .int 0, .ref a7, .ref a8, .int 0, .ref a9, .ref a10, .int 0, .int 0, .ref a11, .ref a12, .int 0, .ref a13, .ref a14, .int 0, .long 0, .long 0, .int 0, .int 0, .int 0, .int 0, .int 0, .ref a15, .int 0, .int 0, .ref a16, .int 0, .ref a17, .ref a18, .ref a19, .int 0, .ref a20, .ref a21, .long 0, .ref a22, .int 0])), (a2, .inl (G.2 0, 5740, .inl (upd (upd (upd (fun _ => 0) 3 (-1)) 4 1000) 6 (-1))))] H := hP
      have hD : va_D A [(a1, .inl (G.2 0, 7, .inl (fun _ => 0))), (a0, .inr (12, [.int 0, .int 0, .ref a1, .ref a2, .ref a3, .ref a4, .int 0, .ref a5, .int 0, .int 0, .int 0, .int 0, .long 0, .int (-1), .int 0, .int 0, .ref a6, .int 0, .ref a7, .ref a8, .int 0, .ref a9, .ref a10, .int 0, .int 0, .ref a11, .ref a12, .int 0, .ref a13, .ref a14, .int 0, .long 0, .long 0, .int 0, .int 0, .int 0, .int 0, .int 0, .ref a15, .int 0, .int 0, .ref a16, .int 0, .ref a17, .ref a18, .ref a19, .int 0, .ref a20, .ref a21, .long 0, .ref a22, .int 0])), (a2, .inl (G.2 0, 5740, .inl (upd (upd (upd (fun _ => 0) 3 (-1)) 4 1000) 6 (-1))))] := hD
      refine lv_if_eq (tgt := 45) hx hb dX12_turn_24 (by decide) (fun c_34 => ?_) (fun c_34 => ?_)
      ·
        refine lv_aload_n hx hb dX12_turn_45 rfl (lv_at hl 0 rfl) ?_
        refine lv_bipush (v := (-2)) hx hb dX12_turn_46 (by decide) ?_
        have hPc := hP.sub (ws' := [(a0, .inr (12, [.int 0, .int 0, .ref a1, .ref a2, .ref a3, .ref a4, .int 0, .ref a5, .int 0, .int 0, .int 0, .int 0, .long 0, .int (-1), .int 0, .int 0, .ref a6, .int 0, .ref a7, .ref a8, .int 0, .ref a9, .ref a10, .int 0, .int 0, .ref a11, .ref a12, .int 0, .ref a13, .ref a14, .int 0, .long 0, .long 0, .int 0, .int 0, .int 0, .int 0, .int 0, .ref a15, .int 0, .int 0, .ref a16, .int 0, .ref a17, .ref a18, .ref a19, .int 0, .ref a20, .ref a21, .long 0, .ref a22, .int 0])), (a1, .inl (G.2 0, 7, .inl (fun _ => 0)))]) [1, 0] rfl
        have hDc := hD.sub (ws' := [(a0, .inr (12, [.int 0, .int 0, .ref a1, .ref a2, .ref a3, .ref a4, .int 0, .ref a5, .int 0, .int 0, .int 0, .int 0, .long 0, .int (-1), .int 0, .int 0, .ref a6, .int 0, .ref a7, .ref a8, .int 0, .ref a9, .ref a10, .int 0, .int 0, .ref a11, .ref a12, .int 0, .ref a13, .ref a14, .int 0, .long 0, .long 0, .int 0, .int 0, .int 0, .int 0, .int 0, .ref a15, .int 0, .int 0, .ref a16, .int 0, .ref a17, .ref a18, .ref a19, .int 0, .ref a20, .ref a21, .long 0, .ref a22, .int 0])), (a1, .inl (G.2 0, 7, .inl (fun _ => 0)))]) [1, 0] (by decide) rfl
        have hFc := va_free (wc := [(a0, .inr (12, [.int 0, .int 0, .ref a1, .ref a2, .ref a3, .ref a4, .int 0, .ref a5, .int 0, .int 0, .int 0, .int 0, .long 0, .int (-1), .int 0, .int 0, .ref a6, .int 0, .ref a7, .ref a8, .int 0, .ref a9, .ref a10, .int 0, .int 0, .ref a11, .ref a12, .int 0, .ref a13, .ref a14, .int 0, .long 0, .long 0, .int 0, .int 0, .int 0, .int 0, .int 0, .ref a15, .int 0, .int 0, .ref a16, .int 0, .ref a17, .ref a18, .ref a19, .int 0, .ref a20, .ref a21, .long 0, .ref a22, .int 0])), (a1, .inl (G.2 0, 7, .inl (fun _ => 0)))]) hD hS hA [1, 0] rfl
        refine va_calli (va_runV (As := [.int (-2)]) (rest := []) ⟨hx, hb, hml, hown, hts⟩ (kX12_tell_4 l G a0 a1 a2 a3 a4 a5 a6 a7 a8 a9 a10 a11 a12 a13 a14 a15 a16 a17 a18 a19 a20 a21 a22 H.size) (cwV 1 hts gV_X12_125 rfl rfl rfl hv_X12_tell ⟨Nat.le_of_ble_eq_true rfl, Nat.le_of_ble_eq_true rfl⟩) (g5_preV hPc hK hDc hN hT hS hFc (ci := 12) (q0 := 0) rfl rfl) rfl rfl hl.1 rfl (lv_room (Nat.le_of_ble_eq_true rfl)) dX12_turn_48 ⟨Nat.le_of_ble_eq_true rfl, Nat.le_of_ble_eq_true rfl⟩) hS (fun q _ h => hFc q h) hFc (fun r u t H1 locs ht hvm hw hB hz1 hk1 hS => ?_)
        obtain ⟨hP1, hD1⟩ := hB
        rw [ht] at hP1
        obtain ⟨rfl, rfl⟩ := hw
        obtain ⟨hP, hD⟩ := va_join (wr := [(a2, .inl (G.2 0, 5740, .inl (upd (upd (upd (fun _ => 0) 3 (-1)) 4 1000) 6 (-1))))]) (w1 := [(a0, .inr (12, [.int 0, .int (-2), .ref a1, .ref a2, .ref a3, .ref a4, .int 0, .ref a5, .int 0, .int 0, .int 0, .int 0, .long 0, .int (-1), .int 0, .int 0, .ref a6, .int 0, .ref a7, .ref a8, .int 0, .ref a9, .ref a10, .int 0, .int 0, .ref a11, .ref a12, .int 0, .ref a13, .ref a14, .int 0, .long 0, .long 0, .int 0, .int 0, .int 0, .int 0, .int 0, .ref a15, .int 0, .int 0, .ref a16, .int 0, .ref a17, .ref a18, .ref a19, .int 0, .ref a20, .ref a21, .long 0, .ref a22, .int 0])), (a1, .inl (G.2 0, 7, .inl (upd (fun _ => 0) 2 1)))]) hP hD [1, 0] [2] rfl rfl (by decide) (by decide) hk1 hFc hP1 hD1
        generalize H1 = H at hP hS ⊢
        have hP : va_P G.1 vwCl [(a2, .inl (G.2 0, 5740, .inl (upd (upd (upd (fun _ => 0) 3 (-1)) 4 1000) 6 (-1)))), (a0, .inr (12, [.int 0, .int (-2), .ref a1, .ref a2, .ref a3, .ref a4, .int 0, .ref a5, .int 0, .int 0, .int 0, .int 0, .long 0, .int (-1), .int 0, .int 0, .ref a6, .int 0, .ref a7, .ref a8, .int 0, .ref a9, .ref a10, .int 0, .int 0, .ref a11, .ref a12, .int 0, .ref a13, .ref a14, .int 0, .long 0, .long 0, .int 0, .int 0, .int 0, .int 0, .int 0, .ref a15, .int 0, .int 0, .ref a16, .int 0, .ref a17, .ref a18, .ref a19, .int 0, .ref a20, .ref a21, .long 0, .ref a22, .int 0])), (a1, .inl (G.2 0, 7, .inl (upd (fun _ => 0) 2 1)))] H := hP
        have hD : va_D A [(a2, .inl (G.2 0, 5740, .inl (upd (upd (upd (fun _ => 0) 3 (-1)) 4 1000) 6 (-1)))), (a0, .inr (12, [.int 0, .int (-2), .ref a1, .ref a2, .ref a3, .ref a4, .int 0, .ref a5, .int 0, .int 0, .int 0, .int 0, .long 0, .int (-1), .int 0, .int 0, .ref a6, .int 0, .ref a7, .ref a8, .int 0, .ref a9, .ref a10, .int 0, .int 0, .ref a11, .ref a12, .int 0, .ref a13, .ref a14, .int 0, .long 0, .long 0, .int 0, .int 0, .int 0, .int 0, .int 0, .ref a15, .int 0, .int 0, .ref a16, .int 0, .ref a17, .ref a18, .ref a19, .int 0, .ref a20, .ref a21, .long 0, .ref a22, .int 0])), (a1, .inl (G.2 0, 7, .inl (upd (fun _ => 0) 2 1)))] := hD
        have hP := hP.sub (ws' := []) [] rfl
        have hD := hD.sub (ws' := []) [] (by decide) rfl
        exact W.iret (v := (-2)) hx hb hr (fun t ht hW => ⟨⟨(-2), [], rfl, Or.inr (Or.inr (Or.inr (Or.inr (Or.inr (Or.inr (Or.inr (Or.inl (⟨i_15, i_16, i_33, rfl, rfl⟩)))))))), by rw [ht]; exact hP, hD⟩, hS.F ht⟩) hS.2.2 dX12_turn_51
      ·
        exact absurd c_34 (by decide)
    ·
      exact absurd c_32 (by decide)
  ·
    have hP := g5_same hP hk1
    generalize H1 = H at hP hS ⊢
    refine lv_if_ne (tgt := 19) hx hb dX12_turn_10 (by decide) (fun c_35 => ?_) (fun c_35 => ?_)
    ·
      exact absurd c_35 (by decide)
    ·
      refine lv_aload_n hx hb dX12_turn_13 rfl (lv_at hl 0 rfl) ?_
      refine lv_iconst (v := (-1)) hx hb dX12_turn_14 (by decide) ?_
      have hPc := hP.sub (ws' := [(a0, .inr (12, [.int 0, .int 0, .ref a1, .ref a2, .ref a3, .ref a4, .int 0, .ref a5, .int 0, .int 0, .int 0, .int 0, .long 0, .int (-1), .int 0, .int 0, .ref a6, .int 0, .ref a7, .ref a8, .int 0, .ref a9, .ref a10, .int 0, .int 0, .ref a11, .ref a12, .int 0, .ref a13, .ref a14, .int 0, .long 0, .long 0, .int 0, .int 0, .int 0, .int 0, .int 0, .ref a15, .int 0, .int 0, .ref a16, .int 0, .ref a17, .ref a18, .ref a19, .int 0, .ref a20, .ref a21, .long 0, .ref a22, .int 0])), (a1, .inl (G.2 0, 7, .inl (fun _ => 0)))]) [0, 1] rfl
      have hDc := hD.sub (ws' := [(a0, .inr (12, [.int 0, .int 0, .ref a1, .ref a2, .ref a3, .ref a4, .int 0, .ref a5, .int 0, .int 0, .int 0, .int 0, .long 0, .int (-1), .int 0, .int 0, .ref a6, .int 0, .ref a7, .ref a8, .int 0, .ref a9, .ref a10, .int 0, .int 0, .ref a11, .ref a12, .int 0, .ref a13, .ref a14, .int 0, .long 0, .long 0, .int 0, .int 0, .int 0, .int 0, .int 0, .ref a15, .int 0, .int 0, .ref a16, .int 0, .ref a17, .ref a18, .ref a19, .int 0, .ref a20, .ref a21, .long 0, .ref a22, .int 0])), (a1, .inl (G.2 0, 7, .inl (fun _ => 0)))]) [0, 1] (by decide) rfl
      have hFc := va_free (wc := [(a0, .inr (12, [.int 0, .int 0, .ref a1, .ref a2, .ref a3, .ref a4, .int 0, .ref a5, .int 0, .int 0, .int 0, .int 0, .long 0, .int (-1), .int 0, .int 0, .ref a6, .int 0, .ref a7, .ref a8, .int 0, .ref a9, .ref a10, .int 0, .int 0, .ref a11, .ref a12, .int 0, .ref a13, .ref a14, .int 0, .long 0, .long 0, .int 0, .int 0, .int 0, .int 0, .int 0, .ref a15, .int 0, .int 0, .ref a16, .int 0, .ref a17, .ref a18, .ref a19, .int 0, .ref a20, .ref a21, .long 0, .ref a22, .int 0])), (a1, .inl (G.2 0, 7, .inl (fun _ => 0)))]) hD hS hA [0, 1] rfl
      refine va_calli (va_runV (As := [.int (-1)]) (rest := []) ⟨hx, hb, hml, hown, hts⟩ (kX12_tell l G a0 a1 a2 a3 a4 a5 a6 a7 a8 a9 a10 a11 a12 a13 a14 a15 a16 a17 a18 a19 a20 a21 a22 H.size) (cwV 1 hts gV_X12_125 rfl rfl rfl hv_X12_tell ⟨Nat.le_of_ble_eq_true rfl, Nat.le_of_ble_eq_true rfl⟩) (g5_preV hPc hK hDc hN hT hS hFc (ci := 12) (q0 := 0) rfl rfl) rfl rfl hl.1 rfl (lv_room (Nat.le_of_ble_eq_true rfl)) dX12_turn_15 ⟨Nat.le_of_ble_eq_true rfl, Nat.le_of_ble_eq_true rfl⟩) hS (fun q _ h => hFc q h) hFc (fun r u t H1 locs ht hvm hw hB hz1 hk1 hS => ?_)
      obtain ⟨hP1, hD1⟩ := hB
      rw [ht] at hP1
      obtain ⟨rfl, rfl⟩ := hw
      obtain ⟨hP, hD⟩ := va_join (wr := [(a2, .inl (G.2 0, 5740, .inl (upd (upd (upd (fun _ => 0) 3 (-1)) 4 1000) 6 (-1))))]) (w1 := [(a0, .inr (12, [.int 0, .int (-1), .ref a1, .ref a2, .ref a3, .ref a4, .int 0, .ref a5, .int 0, .int 0, .int 0, .int 0, .long 0, .int (-1), .int 0, .int 0, .ref a6, .int 0, .ref a7, .ref a8, .int 0, .ref a9, .ref a10, .int 0, .int 0, .ref a11, .ref a12, .int 0, .ref a13, .ref a14, .int 0, .long 0, .long 0, .int 0, .int 0, .int 0, .int 0, .int 0, .ref a15, .int 0, .int 0, .ref a16, .int 0, .ref a17, .ref a18, .ref a19, .int 0, .ref a20, .ref a21, .long 0, .ref a22, .int 0])), (a1, .inl (G.2 0, 7, .inl (upd (fun _ => 0) 1 1)))]) hP hD [0, 1] [2] rfl rfl (by decide) (by decide) hk1 hFc hP1 hD1
      generalize H1 = H at hP hS ⊢
      have hP : va_P G.1 vwCl [(a2, .inl (G.2 0, 5740, .inl (upd (upd (upd (fun _ => 0) 3 (-1)) 4 1000) 6 (-1)))), (a0, .inr (12, [.int 0, .int (-1), .ref a1, .ref a2, .ref a3, .ref a4, .int 0, .ref a5, .int 0, .int 0, .int 0, .int 0, .long 0, .int (-1), .int 0, .int 0, .ref a6, .int 0, .ref a7, .ref a8, .int 0, .ref a9, .ref a10, .int 0, .int 0, .ref a11, .ref a12, .int 0, .ref a13, .ref a14, .int 0, .long 0, .long 0, .int 0, .int 0, .int 0, .int 0, .int 0, .ref a15, .int 0, .int 0, .ref a16, .int 0, .ref a17, .ref a18, .ref a19, .int 0, .ref a20, .ref a21, .long 0, .ref a22, .int 0])), (a1, .inl (G.2 0, 7, .inl (upd (fun _ => 0) 1 1)))] H := hP
      have hD : va_D A [(a2, .inl (G.2 0, 5740, .inl (upd (upd (upd (fun _ => 0) 3 (-1)) 4 1000) 6 (-1)))), (a0, .inr (12, [.int 0, .int (-1), .ref a1, .ref a2, .ref a3, .ref a4, .int 0, .ref a5, .int 0, .int 0, .int 0, .int 0, .long 0, .int (-1), .int 0, .int 0, .ref a6, .int 0, .ref a7, .ref a8, .int 0, .ref a9, .ref a10, .int 0, .int 0, .ref a11, .ref a12, .int 0, .ref a13, .ref a14, .int 0, .long 0, .long 0, .int 0, .int 0, .int 0, .int 0, .int 0, .ref a15, .int 0, .int 0, .ref a16, .int 0, .ref a17, .ref a18, .ref a19, .int 0, .ref a20, .ref a21, .long 0, .ref a22, .int 0])), (a1, .inl (G.2 0, 7, .inl (upd (fun _ => 0) 1 1)))] := hD
      have hP := hP.sub (ws' := []) [] rfl
      have hD := hD.sub (ws' := []) [] (by decide) rfl
      exact W.iret (v := (-1)) hx hb hr (fun t ht hW => ⟨⟨(-1), [], rfl, Or.inr (Or.inr (Or.inr (Or.inr (Or.inr (Or.inr (Or.inr (Or.inr (Or.inl (⟨i_17, rfl, rfl⟩))))))))), by rw [ht]; exact hP, hD⟩, hS.F ht⟩) hS.2.2 dX12_turn_18
  ·
    have hP := g5_same hP hk1
    generalize H1 = H at hP hS ⊢
    refine lv_if_ne (tgt := 19) hx hb dX12_turn_10 (by decide) (fun c_36 => ?_) (fun c_36 => ?_)
    ·
      exact absurd c_36 (by decide)
    ·
      refine lv_aload_n hx hb dX12_turn_13 rfl (lv_at hl 0 rfl) ?_
      refine lv_iconst (v := (-1)) hx hb dX12_turn_14 (by decide) ?_
      have hPc := hP.sub (ws' := [(a0, .inr (12, [.int 0, .int 0, .ref a1, .ref a2, .ref a3, .ref a4, .int 0, .ref a5, .int 0, .int 0, .int 0, .int 0, .long 0, .int (-1), .int 0, .int 0, .ref a6, .int 0, .ref a7, .ref a8, .int 0, .ref a9, .ref a10, .int 0, .int 0, .ref a11, .ref a12, .int 0, .ref a13, .ref a14, .int 0, .long 0, .long 0, .int 0, .int 0, .int 0, .int 0, .int 0, .ref a15, .int 0, .int 0, .ref a16, .int 0, .ref a17, .ref a18, .ref a19, .int 0, .ref a20, .ref a21, .long 0, .ref a22, .int 0])), (a1, .inl (G.2 0, 7, .inl (fun _ => 0)))]) [0, 1] rfl
      have hDc := hD.sub (ws' := [(a0, .inr (12, [.int 0, .int 0, .ref a1, .ref a2, .ref a3, .ref a4, .int 0, .ref a5, .int 0, .int 0, .int 0, .int 0, .long 0, .int (-1), .int 0, .int 0, .ref a6, .int 0, .ref a7, .ref a8, .int 0, .ref a9, .ref a10, .int 0, .int 0, .ref a11, .ref a12, .int 0, .ref a13, .ref a14, .int 0, .long 0, .long 0, .int 0, .int 0, .int 0, .int 0, .int 0, .ref a15, .int 0, .int 0, .ref a16, .int 0, .ref a17, .ref a18, .ref a19, .int 0, .ref a20, .ref a21, .long 0, .ref a22, .int 0])), (a1, .inl (G.2 0, 7, .inl (fun _ => 0)))]) [0, 1] (by decide) rfl
      have hFc := va_free (wc := [(a0, .inr (12, [.int 0, .int 0, .ref a1, .ref a2, .ref a3, .ref a4, .int 0, .ref a5, .int 0, .int 0, .int 0, .int 0, .long 0, .int (-1), .int 0, .int 0, .ref a6, .int 0, .ref a7, .ref a8, .int 0, .ref a9, .ref a10, .int 0, .int 0, .ref a11, .ref a12, .int 0, .ref a13, .ref a14, .int 0, .long 0, .long 0, .int 0, .int 0, .int 0, .int 0, .int 0, .ref a15, .int 0, .int 0, .ref a16, .int 0, .ref a17, .ref a18, .ref a19, .int 0, .ref a20, .ref a21, .long 0, .ref a22, .int 0])), (a1, .inl (G.2 0, 7, .inl (fun _ => 0)))]) hD hS hA [0, 1] rfl
      refine va_calli (va_runV (As := [.int (-1)]) (rest := []) ⟨hx, hb, hml, hown, hts⟩ (kX12_tell l G a0 a1 a2 a3 a4 a5 a6 a7 a8 a9 a10 a11 a12 a13 a14 a15 a16 a17 a18 a19 a20 a21 a22 H.size) (cwV 1 hts gV_X12_125 rfl rfl rfl hv_X12_tell ⟨Nat.le_of_ble_eq_true rfl, Nat.le_of_ble_eq_true rfl⟩) (g5_preV hPc hK hDc hN hT hS hFc (ci := 12) (q0 := 0) rfl rfl) rfl rfl hl.1 rfl (lv_room (Nat.le_of_ble_eq_true rfl)) dX12_turn_15 ⟨Nat.le_of_ble_eq_true rfl, Nat.le_of_ble_eq_true rfl⟩) hS (fun q _ h => hFc q h) hFc (fun r u t H1 locs ht hvm hw hB hz1 hk1 hS => ?_)
      obtain ⟨hP1, hD1⟩ := hB
      rw [ht] at hP1
      obtain ⟨rfl, rfl⟩ := hw
      obtain ⟨hP, hD⟩ := va_join (wr := [(a2, .inl (G.2 0, 5740, .inl (upd (upd (upd (fun _ => 0) 3 (-1)) 4 1000) 6 (-1))))]) (w1 := [(a0, .inr (12, [.int 0, .int (-1), .ref a1, .ref a2, .ref a3, .ref a4, .int 0, .ref a5, .int 0, .int 0, .int 0, .int 0, .long 0, .int (-1), .int 0, .int 0, .ref a6, .int 0, .ref a7, .ref a8, .int 0, .ref a9, .ref a10, .int 0, .int 0, .ref a11, .ref a12, .int 0, .ref a13, .ref a14, .int 0, .long 0, .long 0, .int 0, .int 0, .int 0, .int 0, .int 0, .ref a15, .int 0, .int 0, .ref a16, .int 0, .ref a17, .ref a18, .ref a19, .int 0, .ref a20, .ref a21, .long 0, .ref a22, .int 0])), (a1, .inl (G.2 0, 7, .inl (upd (fun _ => 0) 1 1)))]) hP hD [0, 1] [2] rfl rfl (by decide) (by decide) hk1 hFc hP1 hD1
      generalize H1 = H at hP hS ⊢
      have hP : va_P G.1 vwCl [(a2, .inl (G.2 0, 5740, .inl (upd (upd (upd (fun _ => 0) 3 (-1)) 4 1000) 6 (-1)))), (a0, .inr (12, [.int 0, .int (-1), .ref a1, .ref a2, .ref a3, .ref a4, .int 0, .ref a5, .int 0, .int 0, .int 0, .int 0, .long 0, .int (-1), .int 0, .int 0, .ref a6, .int 0, .ref a7, .ref a8, .int 0, .ref a9, .ref a10, .int 0, .int 0, .ref a11, .ref a12, .int 0, .ref a13, .ref a14, .int 0, .long 0, .long 0, .int 0, .int 0, .int 0, .int 0, .int 0, .ref a15, .int 0, .int 0, .ref a16, .int 0, .ref a17, .ref a18, .ref a19, .int 0, .ref a20, .ref a21, .long 0, .ref a22, .int 0])), (a1, .inl (G.2 0, 7, .inl (upd (fun _ => 0) 1 1)))] H := hP
      have hD : va_D A [(a2, .inl (G.2 0, 5740, .inl (upd (upd (upd (fun _ => 0) 3 (-1)) 4 1000) 6 (-1)))), (a0, .inr (12, [.int 0, .int (-1), .ref a1, .ref a2, .ref a3, .ref a4, .int 0, .ref a5, .int 0, .int 0, .int 0, .int 0, .long 0, .int (-1), .int 0, .int 0, .ref a6, .int 0, .ref a7, .ref a8, .int 0, .ref a9, .ref a10, .int 0, .int 0, .ref a11, .ref a12, .int 0, .ref a13, .ref a14, .int 0, .long 0, .long 0, .int 0, .int 0, .int 0, .int 0, .int 0, .ref a15, .int 0, .int 0, .ref a16, .int 0, .ref a17, .ref a18, .ref a19, .int 0, .ref a20, .ref a21, .long 0, .ref a22, .int 0])), (a1, .inl (G.2 0, 7, .inl (upd (fun _ => 0) 1 1)))] := hD
      have hP := hP.sub (ws' := []) [] rfl
      have hD := hD.sub (ws' := []) [] (by decide) rfl
      exact W.iret (v := (-1)) hx hb hr (fun t ht hW => ⟨⟨(-1), [], rfl, Or.inr (Or.inr (Or.inr (Or.inr (Or.inr (Or.inr (Or.inr (Or.inr (Or.inr (⟨i_18, rfl, rfl⟩))))))))), by rw [ht]; exact hP, hD⟩, hS.F ht⟩) hS.2.2 dX12_turn_18
theorem dX12_of_0 : decode cX12_of 0 = .ok (.aload_n 0, 1) := by decide +kernel
theorem dX12_of_1 : decode cX12_of 1 = .ok (.iconst 0, 1) := by decide +kernel
theorem dX12_of_2 : decode cX12_of 2 = .ok (.putfield 107, 3) := by decide +kernel
theorem dX12_of_5 : decode cX12_of 5 = .ok (.aload_n 0, 1) := by decide +kernel
theorem dX12_of_6 : decode cX12_of 6 = .ok (.iload_n 1, 1) := by decide +kernel
theorem dX12_of_7 : decode cX12_of 7 = .ok (.invokevirtual 170, 3) := by decide +kernel
theorem dX12_of_10 : decode cX12_of 10 = .ok (.ifCond .eq 24, 3) := by decide +kernel
theorem dX12_of_13 : decode cX12_of 13 = .ok (.iload_n 2, 1) := by decide +kernel
theorem dX12_of_14 : decode cX12_of 14 = .ok (.i2l, 1) := by decide +kernel
theorem dX12_of_15 : decode cX12_of 15 = .ok (.lconst 0, 1) := by decide +kernel
theorem dX12_of_16 : decode cX12_of 16 = .ok (.ldc2_w 173, 3) := by decide +kernel
theorem dX12_of_19 : decode cX12_of 19 = .ok (.invokestatic 121, 3) := by decide +kernel
theorem dX12_of_22 : decode cX12_of 22 = .ok (.ifCond .eq 12, 3) := by decide +kernel
theorem dX12_of_25 : decode cX12_of 25 = .ok (.aload_n 0, 1) := by decide +kernel
theorem dX12_of_26 : decode cX12_of 26 = .ok (.iload_n 1, 1) := by decide +kernel
theorem dX12_of_27 : decode cX12_of 27 = .ok (.iload_n 2, 1) := by decide +kernel
theorem dX12_of_28 : decode cX12_of 28 = .ok (.invokevirtual 134, 3) := by decide +kernel
theorem dX12_of_31 : decode cX12_of 31 = .ok (.goto 4, 3) := by decide +kernel
theorem dX12_of_34 : decode cX12_of 34 = .ok (.iconst (-1), 1) := by decide +kernel
theorem dX12_of_35 : decode cX12_of 35 = .ok (.ireturn, 1) := by decide +kernel
set_option maxHeartbeats 4000000 in
set_option maxRecDepth 100000 in
theorem kX12_of (l : Launch) (G : g5_G) (a0 a1 a2 a3 a4 a5 a6 a7 a8 a9 a10 a11 a12 a13 a14 a15 a16 a17 a18 a19 a20 a21 a22 : Nat) (sz : Nat) (n0 : Int32) (n1 : Int32) : Met l yX12_of (wsG yX12_of cX12_of 3 (some .int)) ({ frames := 2, cells := 0, slots := 0, locals := 46 }) (va_Pc [.ref a0, .int n0, .int n1] (g5_P G [(a0, .inr (12, [.int 0, .int 0, .ref a1, .ref a2, .ref a3, .ref a4, .int 0, .ref a5, .int 0, .int 0, .int 0, .int 0, .long 0, .int (-1), .int 0, .int 0, .ref a6, .int 0, .ref a7, .ref a8, .int 0, .ref a9, .ref a10, .int 0, .int 0, .ref a11, .ref a12, .int 0, .ref a13, .ref a14, .int 0, .long 0, .long 0, .int 0, .int 0, .int 0, .int 0, .int 0, .ref a15, .int 0, .int 0, .ref a16, .int 0, .ref a17, .ref a18, .ref a19, .int 0, .ref a20, .ref a21, .long 0, .ref a22, .int 0])), (a2, .inl (G.2 0, 5740, .inl (upd (upd (upd (fun _ => 0) 3 (-1)) 4 1000) 6 (-1))))] sz)) (va_Qi (fun (r : Int32) (u : va_W) => ((n0.toInt < 0 ∨ (-1) < n0.toInt) ∧ (r = (-1)) ∧ (u = []))) (g5_B G (va_A [(a0, .inr (12, [.int 0, .int 0, .ref a1, .ref a2, .ref a3, .ref a4, .int 0, .ref a5, .int 0, .int 0, .int 0, .int 0, .long 0, .int (-1), .int 0, .int 0, .ref a6, .int 0, .ref a7, .ref a8, .int 0, .ref a9, .ref a10, .int 0, .int 0, .ref a11, .ref a12, .int 0, .ref a13, .ref a14, .int 0, .long 0, .long 0, .int 0, .int 0, .int 0, .int 0, .int 0, .ref a15, .int 0, .int 0, .ref a16, .int 0, .ref a17, .ref a18, .ref a19, .int 0, .ref a20, .ref a21, .long 0, .ref a22, .int 0])), (a2, .inl (G.2 0, 5740, .inl (upd (upd (upd (fun _ => 0) 3 (-1)) 4 1000) 6 (-1))))] sz)) (va_A [(a0, .inr (12, [.int 0, .int 0, .ref a1, .ref a2, .ref a3, .ref a4, .int 0, .ref a5, .int 0, .int 0, .int 0, .int 0, .long 0, .int (-1), .int 0, .int 0, .ref a6, .int 0, .ref a7, .ref a8, .int 0, .ref a9, .ref a10, .int 0, .int 0, .ref a11, .ref a12, .int 0, .ref a13, .ref a14, .int 0, .long 0, .long 0, .int 0, .int 0, .int 0, .int 0, .int 0, .ref a15, .int 0, .int 0, .ref a16, .int 0, .ref a17, .ref a18, .ref a19, .int 0, .ref a20, .ref a21, .long 0, .ref a22, .int 0])), (a2, .inl (G.2 0, 5740, .inl (upd (upd (upd (fun _ => 0) 3 (-1)) 4 1000) 6 (-1))))] sz)) 0 0 (va_A [(a0, .inr (12, [.int 0, .int 0, .ref a1, .ref a2, .ref a3, .ref a4, .int 0, .ref a5, .int 0, .int 0, .int 0, .int 0, .long 0, .int (-1), .int 0, .int 0, .ref a6, .int 0, .ref a7, .ref a8, .int 0, .ref a9, .ref a10, .int 0, .int 0, .ref a11, .ref a12, .int 0, .ref a13, .ref a14, .int 0, .long 0, .long 0, .int 0, .int 0, .int 0, .int 0, .int 0, .ref a15, .int 0, .int 0, .ref a16, .int 0, .ref a17, .ref a18, .ref a19, .int 0, .ref a20, .ref a21, .long 0, .ref a22, .int 0])), (a2, .inl (G.2 0, 5740, .inl (upd (upd (upd (fun _ => 0) 3 (-1)) 4 1000) 6 (-1))))] sz) := by
  refine Met.ofW (cc := cX12_of) (maxL := 3) (ret := (some .int)) (by decide) rfl ?_
  intro p e s m args below meth c s₁ B hml hv
  obtain ⟨rfl, hsz, hP, hK, hD0, hN, hT⟩ := hv
  have hx := B.exec
  have hb := B.bytes
  have hr := B.returns
  have hts : ∀ w ∈ tblG, w.before _ s = true := fun w h => atoms_spec (ws := (wsG yX12_of cX12_of 3 (some .int))) B.pre w (List.mem_cons_of_mem _ h)
  have hown : s.vm.findClass RX12 = some m.cls := findClass_of_methodNamed B.named
  have hlocks := B.notSynchronized
  subst hsz
  have hD := hD0.self (sz := s.heap.size)
  generalize hAe : va_A [(a0, .inr (12, [.int 0, .int 0, .ref a1, .ref a2, .ref a3, .ref a4, .int 0, .ref a5, .int 0, .int 0, .int 0, .int 0, .long 0, .int (-1), .int 0, .int 0, .ref a6, .int 0, .ref a7, .ref a8, .int 0, .ref a9, .ref a10, .int 0, .int 0, .ref a11, .ref a12, .int 0, .ref a13, .ref a14, .int 0, .long 0, .long 0, .int 0, .int 0, .int 0, .int 0, .int 0, .ref a15, .int 0, .int 0, .ref a16, .int 0, .ref a17, .ref a18, .ref a19, .int 0, .ref a20, .ref a21, .long 0, .ref a22, .int 0])), (a2, .inl (G.2 0, 5740, .inl (upd (upd (upd (fun _ => 0) 3 (-1)) 4 1000) 6 (-1))))] s.heap.size = A at hD hT ⊢
  have hA : ∀ q : Nat, s.heap.size ≤ q → A q := fun q h => by rw [← hAe]; exact Or.inr h
  have hS : va_S A s.heap s.heap [] := va_S.rf
  have hP : va_P G.1 vwCl [(a0, .inr (12, [.int 0, .int 0, .ref a1, .ref a2, .ref a3, .ref a4, .int 0, .ref a5, .int 0, .int 0, .int 0, .int 0, .long 0, .int (-1), .int 0, .int 0, .ref a6, .int 0, .ref a7, .ref a8, .int 0, .ref a9, .ref a10, .int 0, .int 0, .ref a11, .ref a12, .int 0, .ref a13, .ref a14, .int 0, .long 0, .long 0, .int 0, .int 0, .int 0, .int 0, .int 0, .ref a15, .int 0, .int 0, .ref a16, .int 0, .ref a17, .ref a18, .ref a19, .int 0, .ref a20, .ref a21, .long 0, .ref a22, .int 0])), (a2, .inl (G.2 0, 5740, .inl (upd (upd (upd (fun _ => 0) 3 (-1)) 4 1000) 6 (-1))))] s.heap := hP
  have hl := lv_entry ([.ref a0, .int n0, .int n1]) (n := 3) (Nat.le_of_ble_eq_true rfl)
  rw [lg_entry_eq]
  generalize (lg_sl ([.ref a0, .int n0, .int n1]) ++ List.replicate (3 - (lg_sl ([.ref a0, .int n0, .int n1])).length) Slot.unset).toArray = ls at hl ⊢
  have hl : lv_has ls 3 [(0, .ref a0), (1, .int n0), (2, .int n1)] := hl
  refine lv_aload_n hx hb dX12_of_0 rfl (lv_at hl 0 rfl) ?_
  refine lv_iconst (v := 0) hx hb dX12_of_1 (by decide) ?_
  refine va_put (D := G.1) (ci := 12) (v := .int 0) (ty := .int) (C := RX12) (T := TX12) (N := 52) hx hb hts inG_X12 tyX12 tyX12_ok nmX12 hown hK hP hD hS 0 rfl rfl 0 (by decide) (hts _ fl_X12_107) (fun _ h9 => h9) rfl (by decide +kernel) rfl rfl (Nat.le_of_ble_eq_true rfl) dX12_of_2 (fun H locs hP hD hS => ?_)
  have hP : va_P G.1 vwCl [(a0, .inr (12, [.int 0, .int 0, .ref a1, .ref a2, .ref a3, .ref a4, .int 0, .ref a5, .int 0, .int 0, .int 0, .int 0, .long 0, .int (-1), .int 0, .int 0, .ref a6, .int 0, .ref a7, .ref a8, .int 0, .ref a9, .ref a10, .int 0, .int 0, .ref a11, .ref a12, .int 0, .ref a13, .ref a14, .int 0, .long 0, .long 0, .int 0, .int 0, .int 0, .int 0, .int 0, .ref a15, .int 0, .int 0, .ref a16, .int 0, .ref a17, .ref a18, .ref a19, .int 0, .ref a20, .ref a21, .long 0, .ref a22, .int 0])), (a2, .inl (G.2 0, 5740, .inl (upd (upd (upd (fun _ => 0) 3 (-1)) 4 1000) 6 (-1))))] H := hP
  have hD : va_D A [(a0, .inr (12, [.int 0, .int 0, .ref a1, .ref a2, .ref a3, .ref a4, .int 0, .ref a5, .int 0, .int 0, .int 0, .int 0, .long 0, .int (-1), .int 0, .int 0, .ref a6, .int 0, .ref a7, .ref a8, .int 0, .ref a9, .ref a10, .int 0, .int 0, .ref a11, .ref a12, .int 0, .ref a13, .ref a14, .int 0, .long 0, .long 0, .int 0, .int 0, .int 0, .int 0, .int 0, .ref a15, .int 0, .int 0, .ref a16, .int 0, .ref a17, .ref a18, .ref a19, .int 0, .ref a20, .ref a21, .long 0, .ref a22, .int 0])), (a2, .inl (G.2 0, 5740, .inl (upd (upd (upd (fun _ => 0) 3 (-1)) 4 1000) 6 (-1))))] := hD
  refine lv_aload_n hx hb dX12_of_5 rfl (lv_at hl 0 rfl) ?_
  refine lv_iload_n hx hb dX12_of_6 rfl (lv_at hl 1 rfl) ?_
  have hPc := hP.sub (ws' := [(a0, .inr (12, [.int 0, .int 0, .ref a1, .ref a2, .ref a3, .ref a4, .int 0, .ref a5, .int 0, .int 0, .int 0, .int 0, .long 0, .int (-1), .int 0, .int 0, .ref a6, .int 0, .ref a7, .ref a8, .int 0, .ref a9, .ref a10, .int 0, .int 0, .ref a11, .ref a12, .int 0, .ref a13, .ref a14, .int 0, .long 0, .long 0, .int 0, .int 0, .int 0, .int 0, .int 0, .ref a15, .int 0, .int 0, .ref a16, .int 0, .ref a17, .ref a18, .ref a19, .int 0, .ref a20, .ref a21, .long 0, .ref a22, .int 0])), (a2, .inl (G.2 0, 5740, .inl (upd (upd (upd (fun _ => 0) 3 (-1)) 4 1000) 6 (-1))))]) [0, 1] rfl
  have hDc := hD.sub (ws' := [(a0, .inr (12, [.int 0, .int 0, .ref a1, .ref a2, .ref a3, .ref a4, .int 0, .ref a5, .int 0, .int 0, .int 0, .int 0, .long 0, .int (-1), .int 0, .int 0, .ref a6, .int 0, .ref a7, .ref a8, .int 0, .ref a9, .ref a10, .int 0, .int 0, .ref a11, .ref a12, .int 0, .ref a13, .ref a14, .int 0, .long 0, .long 0, .int 0, .int 0, .int 0, .int 0, .int 0, .ref a15, .int 0, .int 0, .ref a16, .int 0, .ref a17, .ref a18, .ref a19, .int 0, .ref a20, .ref a21, .long 0, .ref a22, .int 0])), (a2, .inl (G.2 0, 5740, .inl (upd (upd (upd (fun _ => 0) 3 (-1)) 4 1000) 6 (-1))))]) [0, 1] (by decide) rfl
  have hFc := va_free (wc := [(a0, .inr (12, [.int 0, .int 0, .ref a1, .ref a2, .ref a3, .ref a4, .int 0, .ref a5, .int 0, .int 0, .int 0, .int 0, .long 0, .int (-1), .int 0, .int 0, .ref a6, .int 0, .ref a7, .ref a8, .int 0, .ref a9, .ref a10, .int 0, .int 0, .ref a11, .ref a12, .int 0, .ref a13, .ref a14, .int 0, .long 0, .long 0, .int 0, .int 0, .int 0, .int 0, .int 0, .ref a15, .int 0, .int 0, .ref a16, .int 0, .ref a17, .ref a18, .ref a19, .int 0, .ref a20, .ref a21, .long 0, .ref a22, .int 0])), (a2, .inl (G.2 0, 5740, .inl (upd (upd (upd (fun _ => 0) 3 (-1)) 4 1000) 6 (-1))))]) hD hS hA [0, 1] rfl
  refine va_calli (va_runV (As := [.int n0]) (rest := []) ⟨hx, hb, hml, hown, hts⟩ (kX12_isGlass l G a0 a1 a2 a3 a4 a5 a6 a7 a8 a9 a10 a11 a12 a13 a14 a15 a16 a17 a18 a19 a20 a21 a22 H.size n0) (cwV 1 hts gV_X12_170 rfl rfl rfl hv_X12_isGlass ⟨Nat.le_of_ble_eq_true rfl, Nat.le_of_ble_eq_true rfl⟩) (g5_preV hPc hK hDc hN hT hS hFc (ci := 12) (q0 := 0) rfl rfl) rfl rfl hl.1 rfl (lv_room (Nat.le_of_ble_eq_true rfl)) dX12_of_7 ⟨Nat.le_of_ble_eq_true rfl, Nat.le_of_ble_eq_true rfl⟩) hS (fun q _ h => hFc q h) hFc (fun r u t H1 locs ht hvm hw hB hz1 hk1 hS => ?_)
  obtain ⟨hP1, hD1⟩ := hB
  rw [ht] at hP1
  obtain ⟨i_1, rfl, rfl⟩ := hw
  obtain ⟨hP, hD⟩ := va_join (wr := []) (w1 := [(a0, .inr (12, [.int 0, .int 0, .ref a1, .ref a2, .ref a3, .ref a4, .int 0, .ref a5, .int 0, .int 0, .int 0, .int 0, .long 0, .int (-1), .int 0, .int 0, .ref a6, .int 0, .ref a7, .ref a8, .int 0, .ref a9, .ref a10, .int 0, .int 0, .ref a11, .ref a12, .int 0, .ref a13, .ref a14, .int 0, .long 0, .long 0, .int 0, .int 0, .int 0, .int 0, .int 0, .ref a15, .int 0, .int 0, .ref a16, .int 0, .ref a17, .ref a18, .ref a19, .int 0, .ref a20, .ref a21, .long 0, .ref a22, .int 0])), (a2, .inl (G.2 0, 5740, .inl (upd (upd (upd (fun _ => 0) 3 (-1)) 4 1000) 6 (-1))))]) hP hD [0, 1] [] rfl rfl (by decide) (by decide) hk1 hFc hP1 hD1
  generalize H1 = H at hP hS ⊢
  have hP : va_P G.1 vwCl [(a0, .inr (12, [.int 0, .int 0, .ref a1, .ref a2, .ref a3, .ref a4, .int 0, .ref a5, .int 0, .int 0, .int 0, .int 0, .long 0, .int (-1), .int 0, .int 0, .ref a6, .int 0, .ref a7, .ref a8, .int 0, .ref a9, .ref a10, .int 0, .int 0, .ref a11, .ref a12, .int 0, .ref a13, .ref a14, .int 0, .long 0, .long 0, .int 0, .int 0, .int 0, .int 0, .int 0, .ref a15, .int 0, .int 0, .ref a16, .int 0, .ref a17, .ref a18, .ref a19, .int 0, .ref a20, .ref a21, .long 0, .ref a22, .int 0])), (a2, .inl (G.2 0, 5740, .inl (upd (upd (upd (fun _ => 0) 3 (-1)) 4 1000) 6 (-1))))] H := hP
  have hD : va_D A [(a0, .inr (12, [.int 0, .int 0, .ref a1, .ref a2, .ref a3, .ref a4, .int 0, .ref a5, .int 0, .int 0, .int 0, .int 0, .long 0, .int (-1), .int 0, .int 0, .ref a6, .int 0, .ref a7, .ref a8, .int 0, .ref a9, .ref a10, .int 0, .int 0, .ref a11, .ref a12, .int 0, .ref a13, .ref a14, .int 0, .long 0, .long 0, .int 0, .int 0, .int 0, .int 0, .int 0, .ref a15, .int 0, .int 0, .ref a16, .int 0, .ref a17, .ref a18, .ref a19, .int 0, .ref a20, .ref a21, .long 0, .ref a22, .int 0])), (a2, .inl (G.2 0, 5740, .inl (upd (upd (upd (fun _ => 0) 3 (-1)) 4 1000) 6 (-1))))] := hD
  refine lv_if_eq (tgt := 34) hx hb dX12_of_10 (by decide) (fun c_2 => ?_) (fun c_2 => ?_)
  ·
    refine lv_iconst (v := (-1)) hx hb dX12_of_34 (by decide) ?_
    have hP := hP.sub (ws' := []) [] rfl
    have hD := hD.sub (ws' := []) [] (by decide) rfl
    exact W.iret (v := (-1)) hx hb hr (fun t ht hW => ⟨⟨(-1), [], rfl, ⟨i_1, rfl, rfl⟩, by rw [ht]; exact hP, hD⟩, hS.F ht⟩) hS.2.2 dX12_of_35
  ·
    exact absurd c_2 (by decide)
theorem dX12_body_0 : decode cX12_body 0 = .ok (.aload_n 0, 1) := by decide +kernel
theorem dX12_body_1 : decode cX12_body 1 = .ok (.iconst 0, 1) := by decide +kernel
theorem dX12_body_2 : decode cX12_body 2 = .ok (.putfield 107, 3) := by decide +kernel
theorem dX12_body_5 : decode cX12_body 5 = .ok (.aload_n 0, 1) := by decide +kernel
theorem dX12_body_6 : decode cX12_body 6 = .ok (.getfield 13, 3) := by decide +kernel
theorem dX12_body_9 : decode cX12_body 9 = .ok (.iconst 1, 1) := by decide +kernel
theorem dX12_body_10 : decode cX12_body 10 = .ok (.iaload, 1) := by decide +kernel
theorem dX12_body_11 : decode cX12_body 11 = .ok (.istore_n 1, 1) := by decide +kernel
theorem dX12_body_12 : decode cX12_body 12 = .ok (.iload_n 1, 1) := by decide +kernel
theorem dX12_body_13 : decode cX12_body 13 = .ok (.iconst 5, 1) := by decide +kernel
theorem dX12_body_14 : decode cX12_body 14 = .ok (.if_icmp .ne 10, 3) := by decide +kernel
theorem dX12_body_17 : decode cX12_body 17 = .ok (.aload_n 0, 1) := by decide +kernel
theorem dX12_body_18 : decode cX12_body 18 = .ok (.bipush (-5), 2) := by decide +kernel
theorem dX12_body_20 : decode cX12_body 20 = .ok (.invokevirtual 125, 3) := by decide +kernel
theorem dX12_body_23 : decode cX12_body 23 = .ok (.ireturn, 1) := by decide +kernel
theorem dX12_body_24 : decode cX12_body 24 = .ok (.iconst 0, 1) := by decide +kernel
theorem dX12_body_25 : decode cX12_body 25 = .ok (.istore_n 2, 1) := by decide +kernel
theorem dX12_body_26 : decode cX12_body 26 = .ok (.iload_n 2, 1) := by decide +kernel
theorem dX12_body_27 : decode cX12_body 27 = .ok (.bipush 24, 2) := by decide +kernel
theorem dX12_body_29 : decode cX12_body 29 = .ok (.if_icmp .ge 24, 3) := by decide +kernel
theorem dX12_body_32 : decode cX12_body 32 = .ok (.aload_n 0, 1) := by decide +kernel
theorem dX12_body_33 : decode cX12_body 33 = .ok (.getfield 13, 3) := by decide +kernel
theorem dX12_body_36 : decode cX12_body 36 = .ok (.bipush 110, 2) := by decide +kernel
theorem dX12_body_38 : decode cX12_body 38 = .ok (.bipush 24, 2) := by decide +kernel
theorem dX12_body_40 : decode cX12_body 40 = .ok (.iload_n 1, 1) := by decide +kernel
theorem dX12_body_41 : decode cX12_body 41 = .ok (.imul, 1) := by decide +kernel
theorem dX12_body_42 : decode cX12_body 42 = .ok (.iadd, 1) := by decide +kernel
theorem dX12_body_43 : decode cX12_body 43 = .ok (.iload_n 2, 1) := by decide +kernel
theorem dX12_body_44 : decode cX12_body 44 = .ok (.iadd, 1) := by decide +kernel
theorem dX12_body_45 : decode cX12_body 45 = .ok (.iconst (-1), 1) := by decide +kernel
theorem dX12_body_46 : decode cX12_body 46 = .ok (.iastore, 1) := by decide +kernel
theorem dX12_body_47 : decode cX12_body 47 = .ok (.iinc 2 1, 3) := by decide +kernel
theorem dX12_body_50 : decode cX12_body 50 = .ok (.goto (-24), 3) := by decide +kernel
theorem dX12_body_53 : decode cX12_body 53 = .ok (.aload_n 0, 1) := by decide +kernel
theorem dX12_body_54 : decode cX12_body 54 = .ok (.getfield 13, 3) := by decide +kernel
theorem dX12_body_57 : decode cX12_body 57 = .ok (.iconst 1, 1) := by decide +kernel
theorem dX12_body_58 : decode cX12_body 58 = .ok (.dup2, 1) := by decide +kernel
theorem dX12_body_59 : decode cX12_body 59 = .ok (.iaload, 1) := by decide +kernel
theorem dX12_body_60 : decode cX12_body 60 = .ok (.iconst 1, 1) := by decide +kernel
theorem dX12_body_61 : decode cX12_body 61 = .ok (.iadd, 1) := by decide +kernel
theorem dX12_body_62 : decode cX12_body 62 = .ok (.iastore, 1) := by decide +kernel
theorem dX12_body_63 : decode cX12_body 63 = .ok (.aload_n 0, 1) := by decide +kernel
theorem dX12_body_64 : decode cX12_body 64 = .ok (.iload_n 1, 1) := by decide +kernel
theorem dX12_body_65 : decode cX12_body 65 = .ok (.invokevirtual 125, 3) := by decide +kernel
theorem dX12_body_68 : decode cX12_body 68 = .ok (.ireturn, 1) := by decide +kernel
set_option maxHeartbeats 4000000 in
set_option maxRecDepth 100000 in
theorem kX12_body (l : Launch) (G : g5_G) (a0 a1 a2 a3 a4 a5 a6 a7 a8 a9 a10 a11 a12 a13 a14 a15 a16 a17 a18 a19 a20 a21 a22 : Nat) (sz : Nat) : Met l yX12_body (wsG yX12_body cX12_body 3 (some .int)) ({ frames := 1, cells := 0, slots := 0, locals := 21 }) (va_Pc [.ref a0] (g5_P G [(a0, .inr (12, [.int 0, .int 0, .ref a1, .ref a2, .ref a3, .ref a4, .int 0, .ref a5, .int 0, .int 0, .int 0, .int 0, .long 0, .int (-1), .int 0, .int 0, .ref a6, .int 0, .ref a7, .ref a8, .int 0, .ref a9, .ref a10, .int 0, .int 0, .ref a11, .ref a12, .int 0, .ref a13, .ref a14, .int 0, .long 0, .long 0, .int 0, .int 0, .int 0, .int 0, .int 0, .ref a15, .int 0, .int 0, .ref a16, .int 0, .ref a17, .ref a18, .ref a19, .int 0, .ref a20, .ref a21, .long 0, .ref a22, .int 0])), (a2, .inl (G.2 0, 5740, .inl (upd (upd (upd (fun _ => 0) 3 (-1)) 4 1000) 6 (-1))))] sz)) (va_Qi (fun (r : Int32) (u : va_W) => ((r = 0) ∧ (u = []))) (g5_B G (va_A [(a0, .inr (12, [.int 0, .int 0, .ref a1, .ref a2, .ref a3, .ref a4, .int 0, .ref a5, .int 0, .int 0, .int 0, .int 0, .long 0, .int (-1), .int 0, .int 0, .ref a6, .int 0, .ref a7, .ref a8, .int 0, .ref a9, .ref a10, .int 0, .int 0, .ref a11, .ref a12, .int 0, .ref a13, .ref a14, .int 0, .long 0, .long 0, .int 0, .int 0, .int 0, .int 0, .int 0, .ref a15, .int 0, .int 0, .ref a16, .int 0, .ref a17, .ref a18, .ref a19, .int 0, .ref a20, .ref a21, .long 0, .ref a22, .int 0])), (a2, .inl (G.2 0, 5740, .inl (upd (upd (upd (fun _ => 0) 3 (-1)) 4 1000) 6 (-1))))] sz)) (va_A [(a0, .inr (12, [.int 0, .int 0, .ref a1, .ref a2, .ref a3, .ref a4, .int 0, .ref a5, .int 0, .int 0, .int 0, .int 0, .long 0, .int (-1), .int 0, .int 0, .ref a6, .int 0, .ref a7, .ref a8, .int 0, .ref a9, .ref a10, .int 0, .int 0, .ref a11, .ref a12, .int 0, .ref a13, .ref a14, .int 0, .long 0, .long 0, .int 0, .int 0, .int 0, .int 0, .int 0, .ref a15, .int 0, .int 0, .ref a16, .int 0, .ref a17, .ref a18, .ref a19, .int 0, .ref a20, .ref a21, .long 0, .ref a22, .int 0])), (a2, .inl (G.2 0, 5740, .inl (upd (upd (upd (fun _ => 0) 3 (-1)) 4 1000) 6 (-1))))] sz)) 0 0 (va_A [(a0, .inr (12, [.int 0, .int 0, .ref a1, .ref a2, .ref a3, .ref a4, .int 0, .ref a5, .int 0, .int 0, .int 0, .int 0, .long 0, .int (-1), .int 0, .int 0, .ref a6, .int 0, .ref a7, .ref a8, .int 0, .ref a9, .ref a10, .int 0, .int 0, .ref a11, .ref a12, .int 0, .ref a13, .ref a14, .int 0, .long 0, .long 0, .int 0, .int 0, .int 0, .int 0, .int 0, .ref a15, .int 0, .int 0, .ref a16, .int 0, .ref a17, .ref a18, .ref a19, .int 0, .ref a20, .ref a21, .long 0, .ref a22, .int 0])), (a2, .inl (G.2 0, 5740, .inl (upd (upd (upd (fun _ => 0) 3 (-1)) 4 1000) 6 (-1))))] sz) := by
  refine Met.ofW (cc := cX12_body) (maxL := 3) (ret := (some .int)) (by decide) rfl ?_
  intro p e s m args below meth c s₁ B hml hv
  obtain ⟨rfl, hsz, hP, hK, hD0, hN, hT⟩ := hv
  have hx := B.exec
  have hb := B.bytes
  have hr := B.returns
  have hts : ∀ w ∈ tblG, w.before _ s = true := fun w h => atoms_spec (ws := (wsG yX12_body cX12_body 3 (some .int))) B.pre w (List.mem_cons_of_mem _ h)
  have hown : s.vm.findClass RX12 = some m.cls := findClass_of_methodNamed B.named
  have hlocks := B.notSynchronized
  subst hsz
  have hD := hD0.self (sz := s.heap.size)
  generalize hAe : va_A [(a0, .inr (12, [.int 0, .int 0, .ref a1, .ref a2, .ref a3, .ref a4, .int 0, .ref a5, .int 0, .int 0, .int 0, .int 0, .long 0, .int (-1), .int 0, .int 0, .ref a6, .int 0, .ref a7, .ref a8, .int 0, .ref a9, .ref a10, .int 0, .int 0, .ref a11, .ref a12, .int 0, .ref a13, .ref a14, .int 0, .long 0, .long 0, .int 0, .int 0, .int 0, .int 0, .int 0, .ref a15, .int 0, .int 0, .ref a16, .int 0, .ref a17, .ref a18, .ref a19, .int 0, .ref a20, .ref a21, .long 0, .ref a22, .int 0])), (a2, .inl (G.2 0, 5740, .inl (upd (upd (upd (fun _ => 0) 3 (-1)) 4 1000) 6 (-1))))] s.heap.size = A at hD hT ⊢
  have hA : ∀ q : Nat, s.heap.size ≤ q → A q := fun q h => by rw [← hAe]; exact Or.inr h
  have hS : va_S A s.heap s.heap [] := va_S.rf
  have hP : va_P G.1 vwCl [(a0, .inr (12, [.int 0, .int 0, .ref a1, .ref a2, .ref a3, .ref a4, .int 0, .ref a5, .int 0, .int 0, .int 0, .int 0, .long 0, .int (-1), .int 0, .int 0, .ref a6, .int 0, .ref a7, .ref a8, .int 0, .ref a9, .ref a10, .int 0, .int 0, .ref a11, .ref a12, .int 0, .ref a13, .ref a14, .int 0, .long 0, .long 0, .int 0, .int 0, .int 0, .int 0, .int 0, .ref a15, .int 0, .int 0, .ref a16, .int 0, .ref a17, .ref a18, .ref a19, .int 0, .ref a20, .ref a21, .long 0, .ref a22, .int 0])), (a2, .inl (G.2 0, 5740, .inl (upd (upd (upd (fun _ => 0) 3 (-1)) 4 1000) 6 (-1))))] s.heap := hP
  have hl := lv_entry ([.ref a0]) (n := 3) (Nat.le_of_ble_eq_true rfl)
  rw [lg_entry_eq]
  generalize (lg_sl ([.ref a0]) ++ List.replicate (3 - (lg_sl ([.ref a0])).length) Slot.unset).toArray = ls at hl ⊢
  have hl : lv_has ls 3 [(0, .ref a0)] := hl
  refine lv_aload_n hx hb dX12_body_0 rfl (lv_at hl 0 rfl) ?_
  refine lv_iconst (v := 0) hx hb dX12_body_1 (by decide) ?_
  refine va_put (D := G.1) (ci := 12) (v := .int 0) (ty := .int) (C := RX12) (T := TX12) (N := 52) hx hb hts inG_X12 tyX12 tyX12_ok nmX12 hown hK hP hD hS 0 rfl rfl 0 (by decide) (hts _ fl_X12_107) (fun _ h9 => h9) rfl (by decide +kernel) rfl rfl (Nat.le_of_ble_eq_true rfl) dX12_body_2 (fun H locs hP hD hS => ?_)
  have hP : va_P G.1 vwCl [(a0, .inr (12, [.int 0, .int 0, .ref a1, .ref a2, .ref a3, .ref a4, .int 0, .ref a5, .int 0, .int 0, .int 0, .int 0, .long 0, .int (-1), .int 0, .int 0, .ref a6, .int 0, .ref a7, .ref a8, .int 0, .ref a9, .ref a10, .int 0, .int 0, .ref a11, .ref a12, .int 0, .ref a13, .ref a14, .int 0, .long 0, .long 0, .int 0, .int 0, .int 0, .int 0, .int 0, .ref a15, .int 0, .int 0, .ref a16, .int 0, .ref a17, .ref a18, .ref a19, .int 0, .ref a20, .ref a21, .long 0, .ref a22, .int 0])), (a2, .inl (G.2 0, 5740, .inl (upd (upd (upd (fun _ => 0) 3 (-1)) 4 1000) 6 (-1))))] H := hP
  have hD : va_D A [(a0, .inr (12, [.int 0, .int 0, .ref a1, .ref a2, .ref a3, .ref a4, .int 0, .ref a5, .int 0, .int 0, .int 0, .int 0, .long 0, .int (-1), .int 0, .int 0, .ref a6, .int 0, .ref a7, .ref a8, .int 0, .ref a9, .ref a10, .int 0, .int 0, .ref a11, .ref a12, .int 0, .ref a13, .ref a14, .int 0, .long 0, .long 0, .int 0, .int 0, .int 0, .int 0, .int 0, .ref a15, .int 0, .int 0, .ref a16, .int 0, .ref a17, .ref a18, .ref a19, .int 0, .ref a20, .ref a21, .long 0, .ref a22, .int 0])), (a2, .inl (G.2 0, 5740, .inl (upd (upd (upd (fun _ => 0) 3 (-1)) 4 1000) 6 (-1))))] := hD
  refine lv_aload_n hx hb dX12_body_5 rfl (lv_at hl 0 rfl) ?_
  refine va_get (D := G.1) (ci := 12) (v := .ref a2) (C := RX12) (T := TX12) (N := 52) hx hb hts inG_X12 hown hK hP 0 rfl rfl 3 (by decide) (hts _ fl_X12_13) (fun _ h9 => h9) rfl dX12_body_6 ?_
  refine lv_iconst (v := 1) hx hb dX12_body_9 (by decide) ?_
  refine va_iald hx hb hK hP 1 0 rfl rfl (i := 1) (by unfold vp_in; decide) dX12_body_10 ?_
  refine g5_ti (v := 0) rfl ?_
  refine lv_istore_n (lv' := [(1, .int 0), (0, .ref a0)]) hx hb dX12_body_11 rfl hl (by decide) rfl (fun ls hl => ?_)
  refine lv_iload_n hx hb dX12_body_12 rfl (lv_at hl 0 rfl) ?_
  refine lv_iconst (v := 5) hx hb dX12_body_13 (by decide) ?_
  refine lv_icmp_ne (tgt := 24) hx hb dX12_body_14 (by decide) (fun c_1 => ?_) (fun c_1 => ?_)
  ·
    refine lv_iconst (v := 0) hx hb dX12_body_24 (by decide) ?_
    refine lv_istore_n (lv' := [(2, .int 0), (1, .int 0), (0, .ref a0)]) hx hb dX12_body_25 rfl hl (by decide) rfl (fun ls hl => ?_)
    refine lv_iload_n hx hb dX12_body_26 rfl (lv_at hl 0 rfl) ?_
    refine lv_bipush (v := 24) hx hb dX12_body_27 (by decide) ?_
    refine lv_icmp_ge (tgt := 53) hx hb dX12_body_29 (by decide) (fun c_2 => ?_) (fun c_2 => ?_)
    ·
      exact absurd c_2 (by decide)
    ·
      refine lv_aload_n hx hb dX12_body_32 rfl (lv_at hl 2 rfl) ?_
      refine va_get (D := G.1) (ci := 12) (v := .ref a2) (C := RX12) (T := TX12) (N := 52) hx hb hts inG_X12 hown hK hP 0 rfl rfl 3 (by decide) (hts _ fl_X12_13) (fun _ h9 => h9) rfl dX12_body_33 ?_
      refine lv_bipush (v := 110) hx hb dX12_body_36 (by decide) ?_
      refine lv_bipush (v := 24) hx hb dX12_body_38 (by decide) ?_
      refine lv_iload_n hx hb dX12_body_40 rfl (lv_at hl 1 rfl) ?_
      refine lv_imul hx hb dX12_body_41 ?_
      refine g5_ti (v := 0) (by decide) ?_
      refine lv_iadd hx hb dX12_body_42 ?_
      refine g5_ti (v := 110) (by decide) ?_
      refine lv_iload_n hx hb dX12_body_43 rfl (lv_at hl 0 rfl) ?_
      refine lv_iadd hx hb dX12_body_44 ?_
      refine g5_ti (v := 110) (by decide) ?_
      refine lv_iconst (v := (-1)) hx hb dX12_body_45 (by decide) ?_
      refine va_iast hx hb hK hP hD hS 1 0 rfl rfl (i := 110) (x := (-1)) (by unfold vp_in; decide) dX12_body_46 (fun H locs hP hD hS => ?_)
      have hP : va_P G.1 vwCl [(a0, .inr (12, [.int 0, .int 0, .ref a1, .ref a2, .ref a3, .ref a4, .int 0, .ref a5, .int 0, .int 0, .int 0, .int 0, .long 0, .int (-1), .int 0, .int 0, .ref a6, .int 0, .ref a7, .ref a8, .int 0, .ref a9, .ref a10, .int 0, .int 0, .ref a11, .ref a12, .int 0, .ref a13, .ref a14, .int 0, .long 0, .long 0, .int 0, .int 0, .int 0, .int 0, .int 0, .ref a15, .int 0, .int 0, .ref a16, .int 0, .ref a17, .ref a18, .ref a19, .int 0, .ref a20, .ref a21, .long 0, .ref a22, .int 0])), (a2, .inl (G.2 0, 5740, .inl (upd (upd (upd (upd (fun _ => 0) 3 (-1)) 4 1000) 6 (-1)) 110 (-1))))] H := hP
      have hD : va_D A [(a0, .inr (12, [.int 0, .int 0, .ref a1, .ref a2, .ref a3, .ref a4, .int 0, .ref a5, .int 0, .int 0, .int 0, .int 0, .long 0, .int (-1), .int 0, .int 0, .ref a6, .int 0, .ref a7, .ref a8, .int 0, .ref a9, .ref a10, .int 0, .int 0, .ref a11, .ref a12, .int 0, .ref a13, .ref a14, .int 0, .long 0, .long 0, .int 0, .int 0, .int 0, .int 0, .int 0, .ref a15, .int 0, .int 0, .ref a16, .int 0, .ref a17, .ref a18, .ref a19, .int 0, .ref a20, .ref a21, .long 0, .ref a22, .int 0])), (a2, .inl (G.2 0, 5740, .inl (upd (upd (upd (upd (fun _ => 0) 3 (-1)) 4 1000) 6 (-1)) 110 (-1))))] := hD
      refine lv_iinc (v := 1) (lv' := [(2, .int 1), (1, .int 0), (0, .ref a0)]) hx hb dX12_body_47 hl (k := 0) rfl (by decide) (by decide) rfl (fun ls hl => ?_)
      refine lv_goto (tgt := 26) hx hb dX12_body_50 (by decide) ?_
      refine lv_iload_n hx hb dX12_body_26 rfl (lv_at hl 0 rfl) ?_
      refine lv_bipush (v := 24) hx hb dX12_body_27 (by decide) ?_
      refine lv_icmp_ge (tgt := 53) hx hb dX12_body_29 (by decide) (fun c_3 => ?_) (fun c_3 => ?_)
      ·
        exact absurd c_3 (by decide)
      ·
        refine lv_aload_n hx hb dX12_body_32 rfl (lv_at hl 2 rfl) ?_
        refine va_get (D := G.1) (ci := 12) (v := .ref a2) (C := RX12) (T := TX12) (N := 52) hx hb hts inG_X12 hown hK hP 0 rfl rfl 3 (by decide) (hts _ fl_X12_13) (fun _ h9 => h9) rfl dX12_body_33 ?_
        refine lv_bipush (v := 110) hx hb dX12_body_36 (by decide) ?_
        refine lv_bipush (v := 24) hx hb dX12_body_38 (by decide) ?_
        refine lv_iload_n hx hb dX12_body_40 rfl (lv_at hl 1 rfl) ?_
        refine lv_imul hx hb dX12_body_41 ?_
        refine g5_ti (v := 0) (by decide) ?_
        refine lv_iadd hx hb dX12_body_42 ?_
        refine g5_ti (v := 110) (by decide) ?_
        refine lv_iload_n hx hb dX12_body_43 rfl (lv_at hl 0 rfl) ?_
        refine lv_iadd hx hb dX12_body_44 ?_
        refine g5_ti (v := 111) (by decide) ?_
        refine lv_iconst (v := (-1)) hx hb dX12_body_45 (by decide) ?_
        refine va_iast hx hb hK hP hD hS 1 0 rfl rfl (i := 111) (x := (-1)) (by unfold vp_in; decide) dX12_body_46 (fun H locs hP hD hS => ?_)
        have hP : va_P G.1 vwCl [(a0, .inr (12, [.int 0, .int 0, .ref a1, .ref a2, .ref a3, .ref a4, .int 0, .ref a5, .int 0, .int 0, .int 0, .int 0, .long 0, .int (-1), .int 0, .int 0, .ref a6, .int 0, .ref a7, .ref a8, .int 0, .ref a9, .ref a10, .int 0, .int 0, .ref a11, .ref a12, .int 0, .ref a13, .ref a14, .int 0, .long 0, .long 0, .int 0, .int 0, .int 0, .int 0, .int 0, .ref a15, .int 0, .int 0, .ref a16, .int 0, .ref a17, .ref a18, .ref a19, .int 0, .ref a20, .ref a21, .long 0, .ref a22, .int 0])), (a2, .inl (G.2 0, 5740, .inl (upd (upd (upd (upd (upd (fun _ => 0) 3 (-1)) 4 1000) 6 (-1)) 110 (-1)) 111 (-1))))] H := hP
        have hD : va_D A [(a0, .inr (12, [.int 0, .int 0, .ref a1, .ref a2, .ref a3, .ref a4, .int 0, .ref a5, .int 0, .int 0, .int 0, .int 0, .long 0, .int (-1), .int 0, .int 0, .ref a6, .int 0, .ref a7, .ref a8, .int 0, .ref a9, .ref a10, .int 0, .int 0, .ref a11, .ref a12, .int 0, .ref a13, .ref a14, .int 0, .long 0, .long 0, .int 0, .int 0, .int 0, .int 0, .int 0, .ref a15, .int 0, .int 0, .ref a16, .int 0, .ref a17, .ref a18, .ref a19, .int 0, .ref a20, .ref a21, .long 0, .ref a22, .int 0])), (a2, .inl (G.2 0, 5740, .inl (upd (upd (upd (upd (upd (fun _ => 0) 3 (-1)) 4 1000) 6 (-1)) 110 (-1)) 111 (-1))))] := hD
        refine lv_iinc (v := 2) (lv' := [(2, .int 2), (1, .int 0), (0, .ref a0)]) hx hb dX12_body_47 hl (k := 0) rfl (by decide) (by decide) rfl (fun ls hl => ?_)
        refine lv_goto (tgt := 26) hx hb dX12_body_50 (by decide) ?_
        refine lv_iload_n hx hb dX12_body_26 rfl (lv_at hl 0 rfl) ?_
        refine lv_bipush (v := 24) hx hb dX12_body_27 (by decide) ?_
        refine lv_icmp_ge (tgt := 53) hx hb dX12_body_29 (by decide) (fun c_4 => ?_) (fun c_4 => ?_)
        ·
          exact absurd c_4 (by decide)
        ·
          refine lv_aload_n hx hb dX12_body_32 rfl (lv_at hl 2 rfl) ?_
          refine va_get (D := G.1) (ci := 12) (v := .ref a2) (C := RX12) (T := TX12) (N := 52) hx hb hts inG_X12 hown hK hP 0 rfl rfl 3 (by decide) (hts _ fl_X12_13) (fun _ h9 => h9) rfl dX12_body_33 ?_
          refine lv_bipush (v := 110) hx hb dX12_body_36 (by decide) ?_
          refine lv_bipush (v := 24) hx hb dX12_body_38 (by decide) ?_
          refine lv_iload_n hx hb dX12_body_40 rfl (lv_at hl 1 rfl) ?_
          refine lv_imul hx hb dX12_body_41 ?_
          refine g5_ti (v := 0) (by decide) ?_
          refine lv_iadd hx hb dX12_body_42 ?_
          refine g5_ti (v := 110) (by decide) ?_
          refine lv_iload_n hx hb dX12_body_43 rfl (lv_at hl 0 rfl) ?_
          refine lv_iadd hx hb dX12_body_44 ?_
          refine g5_ti (v := 112) (by decide) ?_
          refine lv_iconst (v := (-1)) hx hb dX12_body_45 (by decide) ?_
          refine va_iast hx hb hK hP hD hS 1 0 rfl rfl (i := 112) (x := (-1)) (by unfold vp_in; decide) dX12_body_46 (fun H locs hP hD hS => ?_)
          have hP : va_P G.1 vwCl [(a0, .inr (12, [.int 0, .int 0, .ref a1, .ref a2, .ref a3, .ref a4, .int 0, .ref a5, .int 0, .int 0, .int 0, .int 0, .long 0, .int (-1), .int 0, .int 0, .ref a6, .int 0, .ref a7, .ref a8, .int 0, .ref a9, .ref a10, .int 0, .int 0, .ref a11, .ref a12, .int 0, .ref a13, .ref a14, .int 0, .long 0, .long 0, .int 0, .int 0, .int 0, .int 0, .int 0, .ref a15, .int 0, .int 0, .ref a16, .int 0, .ref a17, .ref a18, .ref a19, .int 0, .ref a20, .ref a21, .long 0, .ref a22, .int 0])), (a2, .inl (G.2 0, 5740, .inl (upd (upd (upd (upd (upd (upd (fun _ => 0) 3 (-1)) 4 1000) 6 (-1)) 110 (-1)) 111 (-1)) 112 (-1))))] H := hP
          have hD : va_D A [(a0, .inr (12, [.int 0, .int 0, .ref a1, .ref a2, .ref a3, .ref a4, .int 0, .ref a5, .int 0, .int 0, .int 0, .int 0, .long 0, .int (-1), .int 0, .int 0, .ref a6, .int 0, .ref a7, .ref a8, .int 0, .ref a9, .ref a10, .int 0, .int 0, .ref a11, .ref a12, .int 0, .ref a13, .ref a14, .int 0, .long 0, .long 0, .int 0, .int 0, .int 0, .int 0, .int 0, .ref a15, .int 0, .int 0, .ref a16, .int 0, .ref a17, .ref a18, .ref a19, .int 0, .ref a20, .ref a21, .long 0, .ref a22, .int 0])), (a2, .inl (G.2 0, 5740, .inl (upd (upd (upd (upd (upd (upd (fun _ => 0) 3 (-1)) 4 1000) 6 (-1)) 110 (-1)) 111 (-1)) 112 (-1))))] := hD
          refine lv_iinc (v := 3) (lv' := [(2, .int 3), (1, .int 0), (0, .ref a0)]) hx hb dX12_body_47 hl (k := 0) rfl (by decide) (by decide) rfl (fun ls hl => ?_)
          refine lv_goto (tgt := 26) hx hb dX12_body_50 (by decide) ?_
          refine lv_iload_n hx hb dX12_body_26 rfl (lv_at hl 0 rfl) ?_
          refine lv_bipush (v := 24) hx hb dX12_body_27 (by decide) ?_
          refine lv_icmp_ge (tgt := 53) hx hb dX12_body_29 (by decide) (fun c_5 => ?_) (fun c_5 => ?_)
          ·
            exact absurd c_5 (by decide)
          ·
            refine lv_aload_n hx hb dX12_body_32 rfl (lv_at hl 2 rfl) ?_
            refine va_get (D := G.1) (ci := 12) (v := .ref a2) (C := RX12) (T := TX12) (N := 52) hx hb hts inG_X12 hown hK hP 0 rfl rfl 3 (by decide) (hts _ fl_X12_13) (fun _ h9 => h9) rfl dX12_body_33 ?_
            refine lv_bipush (v := 110) hx hb dX12_body_36 (by decide) ?_
            refine lv_bipush (v := 24) hx hb dX12_body_38 (by decide) ?_
            refine lv_iload_n hx hb dX12_body_40 rfl (lv_at hl 1 rfl) ?_
            refine lv_imul hx hb dX12_body_41 ?_
            refine g5_ti (v := 0) (by decide) ?_
            refine lv_iadd hx hb dX12_body_42 ?_
            refine g5_ti (v := 110) (by decide) ?_
            refine lv_iload_n hx hb dX12_body_43 rfl (lv_at hl 0 rfl) ?_
            refine lv_iadd hx hb dX12_body_44 ?_
            refine g5_ti (v := 113) (by decide) ?_
            refine lv_iconst (v := (-1)) hx hb dX12_body_45 (by decide) ?_
            refine va_iast hx hb hK hP hD hS 1 0 rfl rfl (i := 113) (x := (-1)) (by unfold vp_in; decide) dX12_body_46 (fun H locs hP hD hS => ?_)
            have hP : va_P G.1 vwCl [(a0, .inr (12, [.int 0, .int 0, .ref a1, .ref a2, .ref a3, .ref a4, .int 0, .ref a5, .int 0, .int 0, .int 0, .int 0, .long 0, .int (-1), .int 0, .int 0, .ref a6, .int 0, .ref a7, .ref a8, .int 0, .ref a9, .ref a10, .int 0, .int 0, .ref a11, .ref a12, .int 0, .ref a13, .ref a14, .int 0, .long 0, .long 0, .int 0, .int 0, .int 0, .int 0, .int 0, .ref a15, .int 0, .int 0, .ref a16, .int 0, .ref a17, .ref a18, .ref a19, .int 0, .ref a20, .ref a21, .long 0, .ref a22, .int 0])), (a2, .inl (G.2 0, 5740, .inl (upd (upd (upd (upd (upd (upd (upd (fun _ => 0) 3 (-1)) 4 1000) 6 (-1)) 110 (-1)) 111 (-1)) 112 (-1)) 113 (-1))))] H := hP
            have hD : va_D A [(a0, .inr (12, [.int 0, .int 0, .ref a1, .ref a2, .ref a3, .ref a4, .int 0, .ref a5, .int 0, .int 0, .int 0, .int 0, .long 0, .int (-1), .int 0, .int 0, .ref a6, .int 0, .ref a7, .ref a8, .int 0, .ref a9, .ref a10, .int 0, .int 0, .ref a11, .ref a12, .int 0, .ref a13, .ref a14, .int 0, .long 0, .long 0, .int 0, .int 0, .int 0, .int 0, .int 0, .ref a15, .int 0, .int 0, .ref a16, .int 0, .ref a17, .ref a18, .ref a19, .int 0, .ref a20, .ref a21, .long 0, .ref a22, .int 0])), (a2, .inl (G.2 0, 5740, .inl (upd (upd (upd (upd (upd (upd (upd (fun _ => 0) 3 (-1)) 4 1000) 6 (-1)) 110 (-1)) 111 (-1)) 112 (-1)) 113 (-1))))] := hD
            refine lv_iinc (v := 4) (lv' := [(2, .int 4), (1, .int 0), (0, .ref a0)]) hx hb dX12_body_47 hl (k := 0) rfl (by decide) (by decide) rfl (fun ls hl => ?_)
            refine lv_goto (tgt := 26) hx hb dX12_body_50 (by decide) ?_
            refine lv_iload_n hx hb dX12_body_26 rfl (lv_at hl 0 rfl) ?_
            refine lv_bipush (v := 24) hx hb dX12_body_27 (by decide) ?_
            refine lv_icmp_ge (tgt := 53) hx hb dX12_body_29 (by decide) (fun c_6 => ?_) (fun c_6 => ?_)
            ·
              exact absurd c_6 (by decide)
            ·
              refine lv_aload_n hx hb dX12_body_32 rfl (lv_at hl 2 rfl) ?_
              refine va_get (D := G.1) (ci := 12) (v := .ref a2) (C := RX12) (T := TX12) (N := 52) hx hb hts inG_X12 hown hK hP 0 rfl rfl 3 (by decide) (hts _ fl_X12_13) (fun _ h9 => h9) rfl dX12_body_33 ?_
              refine lv_bipush (v := 110) hx hb dX12_body_36 (by decide) ?_
              refine lv_bipush (v := 24) hx hb dX12_body_38 (by decide) ?_
              refine lv_iload_n hx hb dX12_body_40 rfl (lv_at hl 1 rfl) ?_
              refine lv_imul hx hb dX12_body_41 ?_
              refine g5_ti (v := 0) (by decide) ?_
              refine lv_iadd hx hb dX12_body_42 ?_
              refine g5_ti (v := 110) (by decide) ?_
              refine lv_iload_n hx hb dX12_body_43 rfl (lv_at hl 0 rfl) ?_
              refine lv_iadd hx hb dX12_body_44 ?_
              refine g5_ti (v := 114) (by decide) ?_
              refine lv_iconst (v := (-1)) hx hb dX12_body_45 (by decide) ?_
              refine va_iast hx hb hK hP hD hS 1 0 rfl rfl (i := 114) (x := (-1)) (by unfold vp_in; decide) dX12_body_46 (fun H locs hP hD hS => ?_)
              have hP : va_P G.1 vwCl [(a0, .inr (12, [.int 0, .int 0, .ref a1, .ref a2, .ref a3, .ref a4, .int 0, .ref a5, .int 0, .int 0, .int 0, .int 0, .long 0, .int (-1), .int 0, .int 0, .ref a6, .int 0, .ref a7, .ref a8, .int 0, .ref a9, .ref a10, .int 0, .int 0, .ref a11, .ref a12, .int 0, .ref a13, .ref a14, .int 0, .long 0, .long 0, .int 0, .int 0, .int 0, .int 0, .int 0, .ref a15, .int 0, .int 0, .ref a16, .int 0, .ref a17, .ref a18, .ref a19, .int 0, .ref a20, .ref a21, .long 0, .ref a22, .int 0])), (a2, .inl (G.2 0, 5740, .inl (upd (upd (upd (upd (upd (upd (upd (upd (fun _ => 0) 3 (-1)) 4 1000) 6 (-1)) 110 (-1)) 111 (-1)) 112 (-1)) 113 (-1)) 114 (-1))))] H := hP
              have hD : va_D A [(a0, .inr (12, [.int 0, .int 0, .ref a1, .ref a2, .ref a3, .ref a4, .int 0, .ref a5, .int 0, .int 0, .int 0, .int 0, .long 0, .int (-1), .int 0, .int 0, .ref a6, .int 0, .ref a7, .ref a8, .int 0, .ref a9, .ref a10, .int 0, .int 0, .ref a11, .ref a12, .int 0, .ref a13, .ref a14, .int 0, .long 0, .long 0, .int 0, .int 0, .int 0, .int 0, .int 0, .ref a15, .int 0, .int 0, .ref a16, .int 0, .ref a17, .ref a18, .ref a19, .int 0, .ref a20, .ref a21, .long 0, .ref a22, .int 0])), (a2, .inl (G.2 0, 5740, .inl (upd (upd (upd (upd (upd (upd (upd (upd (fun _ => 0) 3 (-1)) 4 1000) 6 (-1)) 110 (-1)) 111 (-1)) 112 (-1)) 113 (-1)) 114 (-1))))] := hD
              refine lv_iinc (v := 5) (lv' := [(2, .int 5), (1, .int 0), (0, .ref a0)]) hx hb dX12_body_47 hl (k := 0) rfl (by decide) (by decide) rfl (fun ls hl => ?_)
              refine lv_goto (tgt := 26) hx hb dX12_body_50 (by decide) ?_
              refine lv_iload_n hx hb dX12_body_26 rfl (lv_at hl 0 rfl) ?_
              refine lv_bipush (v := 24) hx hb dX12_body_27 (by decide) ?_
              refine lv_icmp_ge (tgt := 53) hx hb dX12_body_29 (by decide) (fun c_7 => ?_) (fun c_7 => ?_)
              ·
                exact absurd c_7 (by decide)
              ·
                refine lv_aload_n hx hb dX12_body_32 rfl (lv_at hl 2 rfl) ?_
                refine va_get (D := G.1) (ci := 12) (v := .ref a2) (C := RX12) (T := TX12) (N := 52) hx hb hts inG_X12 hown hK hP 0 rfl rfl 3 (by decide) (hts _ fl_X12_13) (fun _ h9 => h9) rfl dX12_body_33 ?_
                refine lv_bipush (v := 110) hx hb dX12_body_36 (by decide) ?_
                refine lv_bipush (v := 24) hx hb dX12_body_38 (by decide) ?_
                refine lv_iload_n hx hb dX12_body_40 rfl (lv_at hl 1 rfl) ?_
                refine lv_imul hx hb dX12_body_41 ?_
                refine g5_ti (v := 0) (by decide) ?_
                refine lv_iadd hx hb dX12_body_42 ?_
                refine g5_ti (v := 110) (by decide) ?_
                refine lv_iload_n hx hb dX12_body_43 rfl (lv_at hl 0 rfl) ?_
                refine lv_iadd hx hb dX12_body_44 ?_
                refine g5_ti (v := 115) (by decide) ?_
                refine lv_iconst (v := (-1)) hx hb dX12_body_45 (by decide) ?_
                refine va_iast hx hb hK hP hD hS 1 0 rfl rfl (i := 115) (x := (-1)) (by unfold vp_in; decide) dX12_body_46 (fun H locs hP hD hS => ?_)
                have hP : va_P G.1 vwCl [(a0, .inr (12, [.int 0, .int 0, .ref a1, .ref a2, .ref a3, .ref a4, .int 0, .ref a5, .int 0, .int 0, .int 0, .int 0, .long 0, .int (-1), .int 0, .int 0, .ref a6, .int 0, .ref a7, .ref a8, .int 0, .ref a9, .ref a10, .int 0, .int 0, .ref a11, .ref a12, .int 0, .ref a13, .ref a14, .int 0, .long 0, .long 0, .int 0, .int 0, .int 0, .int 0, .int 0, .ref a15, .int 0, .int 0, .ref a16, .int 0, .ref a17, .ref a18, .ref a19, .int 0, .ref a20, .ref a21, .long 0, .ref a22, .int 0])), (a2, .inl (G.2 0, 5740, .inl (upd (upd (upd (upd (upd (upd (upd (upd (upd (fun _ => 0) 3 (-1)) 4 1000) 6 (-1)) 110 (-1)) 111 (-1)) 112 (-1)) 113 (-1)) 114 (-1)) 115 (-1))))] H := hP
                have hD : va_D A [(a0, .inr (12, [.int 0, .int 0, .ref a1, .ref a2, .ref a3, .ref a4, .int 0, .ref a5, .int 0, .int 0, .int 0, .int 0, .long 0, .int (-1), .int 0, .int 0, .ref a6, .int 0, .ref a7, .ref a8, .int 0, .ref a9, .ref a10, .int 0, .int 0, .ref a11, .ref a12, .int 0, .ref a13, .ref a14, .int 0, .long 0, .long 0, .int 0, .int 0, .int 0, .int 0, .int 0, .ref a15, .int 0, .int 0, .ref a16, .int 0, .ref a17, .ref a18, .ref a19, .int 0, .ref a20, .ref a21, .long 0, .ref a22, .int 0])), (a2, .inl (G.2 0, 5740, .inl (upd (upd (upd (upd (upd (upd (upd (upd (upd (fun _ => 0) 3 (-1)) 4 1000) 6 (-1)) 110 (-1)) 111 (-1)) 112 (-1)) 113 (-1)) 114 (-1)) 115 (-1))))] := hD
                refine lv_iinc (v := 6) (lv' := [(2, .int 6), (1, .int 0), (0, .ref a0)]) hx hb dX12_body_47 hl (k := 0) rfl (by decide) (by decide) rfl (fun ls hl => ?_)
                refine lv_goto (tgt := 26) hx hb dX12_body_50 (by decide) ?_
                refine lv_iload_n hx hb dX12_body_26 rfl (lv_at hl 0 rfl) ?_
                refine lv_bipush (v := 24) hx hb dX12_body_27 (by decide) ?_
                refine lv_icmp_ge (tgt := 53) hx hb dX12_body_29 (by decide) (fun c_8 => ?_) (fun c_8 => ?_)
                ·
                  exact absurd c_8 (by decide)
                ·
                  refine lv_aload_n hx hb dX12_body_32 rfl (lv_at hl 2 rfl) ?_
                  refine va_get (D := G.1) (ci := 12) (v := .ref a2) (C := RX12) (T := TX12) (N := 52) hx hb hts inG_X12 hown hK hP 0 rfl rfl 3 (by decide) (hts _ fl_X12_13) (fun _ h9 => h9) rfl dX12_body_33 ?_
                  refine lv_bipush (v := 110) hx hb dX12_body_36 (by decide) ?_
                  refine lv_bipush (v := 24) hx hb dX12_body_38 (by decide) ?_
                  refine lv_iload_n hx hb dX12_body_40 rfl (lv_at hl 1 rfl) ?_
                  refine lv_imul hx hb dX12_body_41 ?_
                  refine g5_ti (v := 0) (by decide) ?_
                  refine lv_iadd hx hb dX12_body_42 ?_
                  refine g5_ti (v := 110) (by decide) ?_
                  refine lv_iload_n hx hb dX12_body_43 rfl (lv_at hl 0 rfl) ?_
                  refine lv_iadd hx hb dX12_body_44 ?_
                  refine g5_ti (v := 116) (by decide) ?_
                  refine lv_iconst (v := (-1)) hx hb dX12_body_45 (by decide) ?_
                  refine va_iast hx hb hK hP hD hS 1 0 rfl rfl (i := 116) (x := (-1)) (by unfold vp_in; decide) dX12_body_46 (fun H locs hP hD hS => ?_)
                  have hP : va_P G.1 vwCl [(a0, .inr (12, [.int 0, .int 0, .ref a1, .ref a2, .ref a3, .ref a4, .int 0, .ref a5, .int 0, .int 0, .int 0, .int 0, .long 0, .int (-1), .int 0, .int 0, .ref a6, .int 0, .ref a7, .ref a8, .int 0, .ref a9, .ref a10, .int 0, .int 0, .ref a11, .ref a12, .int 0, .ref a13, .ref a14, .int 0, .long 0, .long 0, .int 0, .int 0, .int 0, .int 0, .int 0, .ref a15, .int 0, .int 0, .ref a16, .int 0, .ref a17, .ref a18, .ref a19, .int 0, .ref a20, .ref a21, .long 0, .ref a22, .int 0])), (a2, .inl (G.2 0, 5740, .inl (upd (upd (upd (upd (upd (upd (upd (upd (upd (upd (fun _ => 0) 3 (-1)) 4 1000) 6 (-1)) 110 (-1)) 111 (-1)) 112 (-1)) 113 (-1)) 114 (-1)) 115 (-1)) 116 (-1))))] H := hP
                  have hD : va_D A [(a0, .inr (12, [.int 0, .int 0, .ref a1, .ref a2, .ref a3, .ref a4, .int 0, .ref a5, .int 0, .int 0, .int 0, .int 0, .long 0, .int (-1), .int 0, .int 0, .ref a6, .int 0, .ref a7, .ref a8, .int 0, .ref a9, .ref a10, .int 0, .int 0, .ref a11, .ref a12, .int 0, .ref a13, .ref a14, .int 0, .long 0, .long 0, .int 0, .int 0, .int 0, .int 0, .int 0, .ref a15, .int 0, .int 0, .ref a16, .int 0, .ref a17, .ref a18, .ref a19, .int 0, .ref a20, .ref a21, .long 0, .ref a22, .int 0])), (a2, .inl (G.2 0, 5740, .inl (upd (upd (upd (upd (upd (upd (upd (upd (upd (upd (fun _ => 0) 3 (-1)) 4 1000) 6 (-1)) 110 (-1)) 111 (-1)) 112 (-1)) 113 (-1)) 114 (-1)) 115 (-1)) 116 (-1))))] := hD
                  refine lv_iinc (v := 7) (lv' := [(2, .int 7), (1, .int 0), (0, .ref a0)]) hx hb dX12_body_47 hl (k := 0) rfl (by decide) (by decide) rfl (fun ls hl => ?_)
                  refine lv_goto (tgt := 26) hx hb dX12_body_50 (by decide) ?_
                  refine lv_iload_n hx hb dX12_body_26 rfl (lv_at hl 0 rfl) ?_
                  refine lv_bipush (v := 24) hx hb dX12_body_27 (by decide) ?_
                  refine lv_icmp_ge (tgt := 53) hx hb dX12_body_29 (by decide) (fun c_9 => ?_) (fun c_9 => ?_)
                  ·
                    exact absurd c_9 (by decide)
                  ·
                    refine lv_aload_n hx hb dX12_body_32 rfl (lv_at hl 2 rfl) ?_
                    refine va_get (D := G.1) (ci := 12) (v := .ref a2) (C := RX12) (T := TX12) (N := 52) hx hb hts inG_X12 hown hK hP 0 rfl rfl 3 (by decide) (hts _ fl_X12_13) (fun _ h9 => h9) rfl dX12_body_33 ?_
                    refine lv_bipush (v := 110) hx hb dX12_body_36 (by decide) ?_
                    refine lv_bipush (v := 24) hx hb dX12_body_38 (by decide) ?_
                    refine lv_iload_n hx hb dX12_body_40 rfl (lv_at hl 1 rfl) ?_
                    refine lv_imul hx hb dX12_body_41 ?_
                    refine g5_ti (v := 0) (by decide) ?_
                    refine lv_iadd hx hb dX12_body_42 ?_
                    refine g5_ti (v := 110) (by decide) ?_
                    refine lv_iload_n hx hb dX12_body_43 rfl (lv_at hl 0 rfl) ?_
                    refine lv_iadd hx hb dX12_body_44 ?_
                    refine g5_ti (v := 117) (by decide) ?_
                    refine lv_iconst (v := (-1)) hx hb dX12_body_45 (by decide) ?_
                    refine va_iast hx hb hK hP hD hS 1 0 rfl rfl (i := 117) (x := (-1)) (by unfold vp_in; decide) dX12_body_46 (fun H locs hP hD hS => ?_)
                    have hP : va_P G.1 vwCl [(a0, .inr (12, [.int 0, .int 0, .ref a1, .ref a2, .ref a3, .ref a4, .int 0, .ref a5, .int 0, .int 0, .int 0, .int 0, .long 0, .int (-1), .int 0, .int 0, .ref a6, .int 0, .ref a7, .ref a8, .int 0, .ref a9, .ref a10, .int 0, .int 0, .ref a11, .ref a12, .int 0, .ref a13, .ref a14, .int 0, .long 0, .long 0, .int 0, .int 0, .int 0, .int 0, .int 0, .ref a15, .int 0, .int 0, .ref a16, .int 0, .ref a17, .ref a18, .ref a19, .int 0, .ref a20, .ref a21, .long 0, .ref a22, .int 0])), (a2, .inl (G.2 0, 5740, .inl (upd (upd (upd (upd (upd (upd (upd (upd (upd (upd (upd (fun _ => 0) 3 (-1)) 4 1000) 6 (-1)) 110 (-1)) 111 (-1)) 112 (-1)) 113 (-1)) 114 (-1)) 115 (-1)) 116 (-1)) 117 (-1))))] H := hP
                    have hD : va_D A [(a0, .inr (12, [.int 0, .int 0, .ref a1, .ref a2, .ref a3, .ref a4, .int 0, .ref a5, .int 0, .int 0, .int 0, .int 0, .long 0, .int (-1), .int 0, .int 0, .ref a6, .int 0, .ref a7, .ref a8, .int 0, .ref a9, .ref a10, .int 0, .int 0, .ref a11, .ref a12, .int 0, .ref a13, .ref a14, .int 0, .long 0, .long 0, .int 0, .int 0, .int 0, .int 0, .int 0, .ref a15, .int 0, .int 0, .ref a16, .int 0, .ref a17, .ref a18, .ref a19, .int 0, .ref a20, .ref a21, .long 0, .ref a22, .int 0])), (a2, .inl (G.2 0, 5740, .inl (upd (upd (upd (upd (upd (upd (upd (upd (upd (upd (upd (fun _ => 0) 3 (-1)) 4 1000) 6 (-1)) 110 (-1)) 111 (-1)) 112 (-1)) 113 (-1)) 114 (-1)) 115 (-1)) 116 (-1)) 117 (-1))))] := hD
                    refine lv_iinc (v := 8) (lv' := [(2, .int 8), (1, .int 0), (0, .ref a0)]) hx hb dX12_body_47 hl (k := 0) rfl (by decide) (by decide) rfl (fun ls hl => ?_)
                    refine lv_goto (tgt := 26) hx hb dX12_body_50 (by decide) ?_
                    refine lv_iload_n hx hb dX12_body_26 rfl (lv_at hl 0 rfl) ?_
                    refine lv_bipush (v := 24) hx hb dX12_body_27 (by decide) ?_
                    refine lv_icmp_ge (tgt := 53) hx hb dX12_body_29 (by decide) (fun c_10 => ?_) (fun c_10 => ?_)
                    ·
                      exact absurd c_10 (by decide)
                    ·
                      refine lv_aload_n hx hb dX12_body_32 rfl (lv_at hl 2 rfl) ?_
                      refine va_get (D := G.1) (ci := 12) (v := .ref a2) (C := RX12) (T := TX12) (N := 52) hx hb hts inG_X12 hown hK hP 0 rfl rfl 3 (by decide) (hts _ fl_X12_13) (fun _ h9 => h9) rfl dX12_body_33 ?_
                      refine lv_bipush (v := 110) hx hb dX12_body_36 (by decide) ?_
                      refine lv_bipush (v := 24) hx hb dX12_body_38 (by decide) ?_
                      refine lv_iload_n hx hb dX12_body_40 rfl (lv_at hl 1 rfl) ?_
                      refine lv_imul hx hb dX12_body_41 ?_
                      refine g5_ti (v := 0) (by decide) ?_
                      refine lv_iadd hx hb dX12_body_42 ?_
                      refine g5_ti (v := 110) (by decide) ?_
                      refine lv_iload_n hx hb dX12_body_43 rfl (lv_at hl 0 rfl) ?_
                      refine lv_iadd hx hb dX12_body_44 ?_
                      refine g5_ti (v := 118) (by decide) ?_
                      refine lv_iconst (v := (-1)) hx hb dX12_body_45 (by decide) ?_
                      refine va_iast hx hb hK hP hD hS 1 0 rfl rfl (i := 118) (x := (-1)) (by unfold vp_in; decide) dX12_body_46 (fun H locs hP hD hS => ?_)
                      have hP : va_P G.1 vwCl [(a0, .inr (12, [.int 0, .int 0, .ref a1, .ref a2, .ref a3, .ref a4, .int 0, .ref a5, .int 0, .int 0, .int 0, .int 0, .long 0, .int (-1), .int 0, .int 0, .ref a6, .int 0, .ref a7, .ref a8, .int 0, .ref a9, .ref a10, .int 0, .int 0, .ref a11, .ref a12, .int 0, .ref a13, .ref a14, .int 0, .long 0, .long 0, .int 0, .int 0, .int 0, .int 0, .int 0, .ref a15, .int 0, .int 0, .ref a16, .int 0, .ref a17, .ref a18, .ref a19, .int 0, .ref a20, .ref a21, .long 0, .ref a22, .int 0])), (a2, .inl (G.2 0, 5740, .inl (upd (upd (upd (upd (upd (upd (upd (upd (upd (upd (upd (upd (fun _ => 0) 3 (-1)) 4 1000) 6 (-1)) 110 (-1)) 111 (-1)) 112 (-1)) 113 (-1)) 114 (-1)) 115 (-1)) 116 (-1)) 117 (-1)) 118 (-1))))] H := hP
                      have hD : va_D A [(a0, .inr (12, [.int 0, .int 0, .ref a1, .ref a2, .ref a3, .ref a4, .int 0, .ref a5, .int 0, .int 0, .int 0, .int 0, .long 0, .int (-1), .int 0, .int 0, .ref a6, .int 0, .ref a7, .ref a8, .int 0, .ref a9, .ref a10, .int 0, .int 0, .ref a11, .ref a12, .int 0, .ref a13, .ref a14, .int 0, .long 0, .long 0, .int 0, .int 0, .int 0, .int 0, .int 0, .ref a15, .int 0, .int 0, .ref a16, .int 0, .ref a17, .ref a18, .ref a19, .int 0, .ref a20, .ref a21, .long 0, .ref a22, .int 0])), (a2, .inl (G.2 0, 5740, .inl (upd (upd (upd (upd (upd (upd (upd (upd (upd (upd (upd (upd (fun _ => 0) 3 (-1)) 4 1000) 6 (-1)) 110 (-1)) 111 (-1)) 112 (-1)) 113 (-1)) 114 (-1)) 115 (-1)) 116 (-1)) 117 (-1)) 118 (-1))))] := hD
                      refine lv_iinc (v := 9) (lv' := [(2, .int 9), (1, .int 0), (0, .ref a0)]) hx hb dX12_body_47 hl (k := 0) rfl (by decide) (by decide) rfl (fun ls hl => ?_)
                      refine lv_goto (tgt := 26) hx hb dX12_body_50 (by decide) ?_
                      refine lv_iload_n hx hb dX12_body_26 rfl (lv_at hl 0 rfl) ?_
                      refine lv_bipush (v := 24) hx hb dX12_body_27 (by decide) ?_
                      refine lv_icmp_ge (tgt := 53) hx hb dX12_body_29 (by decide) (fun c_11 => ?_) (fun c_11 => ?_)
                      ·
                        exact absurd c_11 (by decide)
                      ·
                        refine lv_aload_n hx hb dX12_body_32 rfl (lv_at hl 2 rfl) ?_
                        refine va_get (D := G.1) (ci := 12) (v := .ref a2) (C := RX12) (T := TX12) (N := 52) hx hb hts inG_X12 hown hK hP 0 rfl rfl 3 (by decide) (hts _ fl_X12_13) (fun _ h9 => h9) rfl dX12_body_33 ?_
                        refine lv_bipush (v := 110) hx hb dX12_body_36 (by decide) ?_
                        refine lv_bipush (v := 24) hx hb dX12_body_38 (by decide) ?_
                        refine lv_iload_n hx hb dX12_body_40 rfl (lv_at hl 1 rfl) ?_
                        refine lv_imul hx hb dX12_body_41 ?_
                        refine g5_ti (v := 0) (by decide) ?_
                        refine lv_iadd hx hb dX12_body_42 ?_
                        refine g5_ti (v := 110) (by decide) ?_
                        refine lv_iload_n hx hb dX12_body_43 rfl (lv_at hl 0 rfl) ?_
                        refine lv_iadd hx hb dX12_body_44 ?_
                        refine g5_ti (v := 119) (by decide) ?_
                        refine lv_iconst (v := (-1)) hx hb dX12_body_45 (by decide) ?_
                        refine va_iast hx hb hK hP hD hS 1 0 rfl rfl (i := 119) (x := (-1)) (by unfold vp_in; decide) dX12_body_46 (fun H locs hP hD hS => ?_)
                        have hP : va_P G.1 vwCl [(a0, .inr (12, [.int 0, .int 0, .ref a1, .ref a2, .ref a3, .ref a4, .int 0, .ref a5, .int 0, .int 0, .int 0, .int 0, .long 0, .int (-1), .int 0, .int 0, .ref a6, .int 0, .ref a7, .ref a8, .int 0, .ref a9, .ref a10, .int 0, .int 0, .ref a11, .ref a12, .int 0, .ref a13, .ref a14, .int 0, .long 0, .long 0, .int 0, .int 0, .int 0, .int 0, .int 0, .ref a15, .int 0, .int 0, .ref a16, .int 0, .ref a17, .ref a18, .ref a19, .int 0, .ref a20, .ref a21, .long 0, .ref a22, .int 0])), (a2, .inl (G.2 0, 5740, .inl (upd (upd (upd (upd (upd (upd (upd (upd (upd (upd (upd (upd (upd (fun _ => 0) 3 (-1)) 4 1000) 6 (-1)) 110 (-1)) 111 (-1)) 112 (-1)) 113 (-1)) 114 (-1)) 115 (-1)) 116 (-1)) 117 (-1)) 118 (-1)) 119 (-1))))] H := hP
                        have hD : va_D A [(a0, .inr (12, [.int 0, .int 0, .ref a1, .ref a2, .ref a3, .ref a4, .int 0, .ref a5, .int 0, .int 0, .int 0, .int 0, .long 0, .int (-1), .int 0, .int 0, .ref a6, .int 0, .ref a7, .ref a8, .int 0, .ref a9, .ref a10, .int 0, .int 0, .ref a11, .ref a12, .int 0, .ref a13, .ref a14, .int 0, .long 0, .long 0, .int 0, .int 0, .int 0, .int 0, .int 0, .ref a15, .int 0, .int 0, .ref a16, .int 0, .ref a17, .ref a18, .ref a19, .int 0, .ref a20, .ref a21, .long 0, .ref a22, .int 0])), (a2, .inl (G.2 0, 5740, .inl (upd (upd (upd (upd (upd (upd (upd (upd (upd (upd (upd (upd (upd (fun _ => 0) 3 (-1)) 4 1000) 6 (-1)) 110 (-1)) 111 (-1)) 112 (-1)) 113 (-1)) 114 (-1)) 115 (-1)) 116 (-1)) 117 (-1)) 118 (-1)) 119 (-1))))] := hD
                        refine lv_iinc (v := 10) (lv' := [(2, .int 10), (1, .int 0), (0, .ref a0)]) hx hb dX12_body_47 hl (k := 0) rfl (by decide) (by decide) rfl (fun ls hl => ?_)
                        refine lv_goto (tgt := 26) hx hb dX12_body_50 (by decide) ?_
                        refine lv_iload_n hx hb dX12_body_26 rfl (lv_at hl 0 rfl) ?_
                        refine lv_bipush (v := 24) hx hb dX12_body_27 (by decide) ?_
                        refine lv_icmp_ge (tgt := 53) hx hb dX12_body_29 (by decide) (fun c_12 => ?_) (fun c_12 => ?_)
                        ·
                          exact absurd c_12 (by decide)
                        ·
                          refine lv_aload_n hx hb dX12_body_32 rfl (lv_at hl 2 rfl) ?_
                          refine va_get (D := G.1) (ci := 12) (v := .ref a2) (C := RX12) (T := TX12) (N := 52) hx hb hts inG_X12 hown hK hP 0 rfl rfl 3 (by decide) (hts _ fl_X12_13) (fun _ h9 => h9) rfl dX12_body_33 ?_
                          refine lv_bipush (v := 110) hx hb dX12_body_36 (by decide) ?_
                          refine lv_bipush (v := 24) hx hb dX12_body_38 (by decide) ?_
                          refine lv_iload_n hx hb dX12_body_40 rfl (lv_at hl 1 rfl) ?_
                          refine lv_imul hx hb dX12_body_41 ?_
                          refine g5_ti (v := 0) (by decide) ?_
                          refine lv_iadd hx hb dX12_body_42 ?_
                          refine g5_ti (v := 110) (by decide) ?_
                          refine lv_iload_n hx hb dX12_body_43 rfl (lv_at hl 0 rfl) ?_
                          refine lv_iadd hx hb dX12_body_44 ?_
                          refine g5_ti (v := 120) (by decide) ?_
                          refine lv_iconst (v := (-1)) hx hb dX12_body_45 (by decide) ?_
                          refine va_iast hx hb hK hP hD hS 1 0 rfl rfl (i := 120) (x := (-1)) (by unfold vp_in; decide) dX12_body_46 (fun H locs hP hD hS => ?_)
                          have hP : va_P G.1 vwCl [(a0, .inr (12, [.int 0, .int 0, .ref a1, .ref a2, .ref a3, .ref a4, .int 0, .ref a5, .int 0, .int 0, .int 0, .int 0, .long 0, .int (-1), .int 0, .int 0, .ref a6, .int 0, .ref a7, .ref a8, .int 0, .ref a9, .ref a10, .int 0, .int 0, .ref a11, .ref a12, .int 0, .ref a13, .ref a14, .int 0, .long 0, .long 0, .int 0, .int 0, .int 0, .int 0, .int 0, .ref a15, .int 0, .int 0, .ref a16, .int 0, .ref a17, .ref a18, .ref a19, .int 0, .ref a20, .ref a21, .long 0, .ref a22, .int 0])), (a2, .inl (G.2 0, 5740, .inl (upd (upd (upd (upd (upd (upd (upd (upd (upd (upd (upd (upd (upd (upd (fun _ => 0) 3 (-1)) 4 1000) 6 (-1)) 110 (-1)) 111 (-1)) 112 (-1)) 113 (-1)) 114 (-1)) 115 (-1)) 116 (-1)) 117 (-1)) 118 (-1)) 119 (-1)) 120 (-1))))] H := hP
                          have hD : va_D A [(a0, .inr (12, [.int 0, .int 0, .ref a1, .ref a2, .ref a3, .ref a4, .int 0, .ref a5, .int 0, .int 0, .int 0, .int 0, .long 0, .int (-1), .int 0, .int 0, .ref a6, .int 0, .ref a7, .ref a8, .int 0, .ref a9, .ref a10, .int 0, .int 0, .ref a11, .ref a12, .int 0, .ref a13, .ref a14, .int 0, .long 0, .long 0, .int 0, .int 0, .int 0, .int 0, .int 0, .ref a15, .int 0, .int 0, .ref a16, .int 0, .ref a17, .ref a18, .ref a19, .int 0, .ref a20, .ref a21, .long 0, .ref a22, .int 0])), (a2, .inl (G.2 0, 5740, .inl (upd (upd (upd (upd (upd (upd (upd (upd (upd (upd (upd (upd (upd (upd (fun _ => 0) 3 (-1)) 4 1000) 6 (-1)) 110 (-1)) 111 (-1)) 112 (-1)) 113 (-1)) 114 (-1)) 115 (-1)) 116 (-1)) 117 (-1)) 118 (-1)) 119 (-1)) 120 (-1))))] := hD
                          refine lv_iinc (v := 11) (lv' := [(2, .int 11), (1, .int 0), (0, .ref a0)]) hx hb dX12_body_47 hl (k := 0) rfl (by decide) (by decide) rfl (fun ls hl => ?_)
                          refine lv_goto (tgt := 26) hx hb dX12_body_50 (by decide) ?_
                          refine lv_iload_n hx hb dX12_body_26 rfl (lv_at hl 0 rfl) ?_
                          refine lv_bipush (v := 24) hx hb dX12_body_27 (by decide) ?_
                          refine lv_icmp_ge (tgt := 53) hx hb dX12_body_29 (by decide) (fun c_13 => ?_) (fun c_13 => ?_)
                          ·
                            exact absurd c_13 (by decide)
                          ·
                            refine lv_aload_n hx hb dX12_body_32 rfl (lv_at hl 2 rfl) ?_
                            refine va_get (D := G.1) (ci := 12) (v := .ref a2) (C := RX12) (T := TX12) (N := 52) hx hb hts inG_X12 hown hK hP 0 rfl rfl 3 (by decide) (hts _ fl_X12_13) (fun _ h9 => h9) rfl dX12_body_33 ?_
                            refine lv_bipush (v := 110) hx hb dX12_body_36 (by decide) ?_
                            refine lv_bipush (v := 24) hx hb dX12_body_38 (by decide) ?_
                            refine lv_iload_n hx hb dX12_body_40 rfl (lv_at hl 1 rfl) ?_
                            refine lv_imul hx hb dX12_body_41 ?_
                            refine g5_ti (v := 0) (by decide) ?_
                            refine lv_iadd hx hb dX12_body_42 ?_
                            refine g5_ti (v := 110) (by decide) ?_
                            refine lv_iload_n hx hb dX12_body_43 rfl (lv_at hl 0 rfl) ?_
                            refine lv_iadd hx hb dX12_body_44 ?_
                            refine g5_ti (v := 121) (by decide) ?_
                            refine lv_iconst (v := (-1)) hx hb dX12_body_45 (by decide) ?_
                            refine va_iast hx hb hK hP hD hS 1 0 rfl rfl (i := 121) (x := (-1)) (by unfold vp_in; decide) dX12_body_46 (fun H locs hP hD hS => ?_)
                            have hP : va_P G.1 vwCl [(a0, .inr (12, [.int 0, .int 0, .ref a1, .ref a2, .ref a3, .ref a4, .int 0, .ref a5, .int 0, .int 0, .int 0, .int 0, .long 0, .int (-1), .int 0, .int 0, .ref a6, .int 0, .ref a7, .ref a8, .int 0, .ref a9, .ref a10, .int 0, .int 0, .ref a11, .ref a12, .int 0, .ref a13, .ref a14, .int 0, .long 0, .long 0, .int 0, .int 0, .int 0, .int 0, .int 0, .ref a15, .int 0, .int 0, .ref a16, .int 0, .ref a17, .ref a18, .ref a19, .int 0, .ref a20, .ref a21, .long 0, .ref a22, .int 0])), (a2, .inl (G.2 0, 5740, .inl (upd (upd (upd (upd (upd (upd (upd (upd (upd (upd (upd (upd (upd (upd (upd (fun _ => 0) 3 (-1)) 4 1000) 6 (-1)) 110 (-1)) 111 (-1)) 112 (-1)) 113 (-1)) 114 (-1)) 115 (-1)) 116 (-1)) 117 (-1)) 118 (-1)) 119 (-1)) 120 (-1)) 121 (-1))))] H := hP
                            have hD : va_D A [(a0, .inr (12, [.int 0, .int 0, .ref a1, .ref a2, .ref a3, .ref a4, .int 0, .ref a5, .int 0, .int 0, .int 0, .int 0, .long 0, .int (-1), .int 0, .int 0, .ref a6, .int 0, .ref a7, .ref a8, .int 0, .ref a9, .ref a10, .int 0, .int 0, .ref a11, .ref a12, .int 0, .ref a13, .ref a14, .int 0, .long 0, .long 0, .int 0, .int 0, .int 0, .int 0, .int 0, .ref a15, .int 0, .int 0, .ref a16, .int 0, .ref a17, .ref a18, .ref a19, .int 0, .ref a20, .ref a21, .long 0, .ref a22, .int 0])), (a2, .inl (G.2 0, 5740, .inl (upd (upd (upd (upd (upd (upd (upd (upd (upd (upd (upd (upd (upd (upd (upd (fun _ => 0) 3 (-1)) 4 1000) 6 (-1)) 110 (-1)) 111 (-1)) 112 (-1)) 113 (-1)) 114 (-1)) 115 (-1)) 116 (-1)) 117 (-1)) 118 (-1)) 119 (-1)) 120 (-1)) 121 (-1))))] := hD
                            refine lv_iinc (v := 12) (lv' := [(2, .int 12), (1, .int 0), (0, .ref a0)]) hx hb dX12_body_47 hl (k := 0) rfl (by decide) (by decide) rfl (fun ls hl => ?_)
                            refine lv_goto (tgt := 26) hx hb dX12_body_50 (by decide) ?_
                            refine lv_iload_n hx hb dX12_body_26 rfl (lv_at hl 0 rfl) ?_
                            refine lv_bipush (v := 24) hx hb dX12_body_27 (by decide) ?_
                            refine lv_icmp_ge (tgt := 53) hx hb dX12_body_29 (by decide) (fun c_14 => ?_) (fun c_14 => ?_)
                            ·
                              exact absurd c_14 (by decide)
                            ·
                              refine lv_aload_n hx hb dX12_body_32 rfl (lv_at hl 2 rfl) ?_
                              refine va_get (D := G.1) (ci := 12) (v := .ref a2) (C := RX12) (T := TX12) (N := 52) hx hb hts inG_X12 hown hK hP 0 rfl rfl 3 (by decide) (hts _ fl_X12_13) (fun _ h9 => h9) rfl dX12_body_33 ?_
                              refine lv_bipush (v := 110) hx hb dX12_body_36 (by decide) ?_
                              refine lv_bipush (v := 24) hx hb dX12_body_38 (by decide) ?_
                              refine lv_iload_n hx hb dX12_body_40 rfl (lv_at hl 1 rfl) ?_
                              refine lv_imul hx hb dX12_body_41 ?_
                              refine g5_ti (v := 0) (by decide) ?_
                              refine lv_iadd hx hb dX12_body_42 ?_
                              refine g5_ti (v := 110) (by decide) ?_
                              refine lv_iload_n hx hb dX12_body_43 rfl (lv_at hl 0 rfl) ?_
                              refine lv_iadd hx hb dX12_body_44 ?_
                              refine g5_ti (v := 122) (by decide) ?_
                              refine lv_iconst (v := (-1)) hx hb dX12_body_45 (by decide) ?_
                              refine va_iast hx hb hK hP hD hS 1 0 rfl rfl (i := 122) (x := (-1)) (by unfold vp_in; decide) dX12_body_46 (fun H locs hP hD hS => ?_)
                              have hP : va_P G.1 vwCl [(a0, .inr (12, [.int 0, .int 0, .ref a1, .ref a2, .ref a3, .ref a4, .int 0, .ref a5, .int 0, .int 0, .int 0, .int 0, .long 0, .int (-1), .int 0, .int 0, .ref a6, .int 0, .ref a7, .ref a8, .int 0, .ref a9, .ref a10, .int 0, .int 0, .ref a11, .ref a12, .int 0, .ref a13, .ref a14, .int 0, .long 0, .long 0, .int 0, .int 0, .int 0, .int 0, .int 0, .ref a15, .int 0, .int 0, .ref a16, .int 0, .ref a17, .ref a18, .ref a19, .int 0, .ref a20, .ref a21, .long 0, .ref a22, .int 0])), (a2, .inl (G.2 0, 5740, .inl (upd (upd (upd (upd (upd (upd (upd (upd (upd (upd (upd (upd (upd (upd (upd (upd (fun _ => 0) 3 (-1)) 4 1000) 6 (-1)) 110 (-1)) 111 (-1)) 112 (-1)) 113 (-1)) 114 (-1)) 115 (-1)) 116 (-1)) 117 (-1)) 118 (-1)) 119 (-1)) 120 (-1)) 121 (-1)) 122 (-1))))] H := hP
                              have hD : va_D A [(a0, .inr (12, [.int 0, .int 0, .ref a1, .ref a2, .ref a3, .ref a4, .int 0, .ref a5, .int 0, .int 0, .int 0, .int 0, .long 0, .int (-1), .int 0, .int 0, .ref a6, .int 0, .ref a7, .ref a8, .int 0, .ref a9, .ref a10, .int 0, .int 0, .ref a11, .ref a12, .int 0, .ref a13, .ref a14, .int 0, .long 0, .long 0, .int 0, .int 0, .int 0, .int 0, .int 0, .ref a15, .int 0, .int 0, .ref a16, .int 0, .ref a17, .ref a18, .ref a19, .int 0, .ref a20, .ref a21, .long 0, .ref a22, .int 0])), (a2, .inl (G.2 0, 5740, .inl (upd (upd (upd (upd (upd (upd (upd (upd (upd (upd (upd (upd (upd (upd (upd (upd (fun _ => 0) 3 (-1)) 4 1000) 6 (-1)) 110 (-1)) 111 (-1)) 112 (-1)) 113 (-1)) 114 (-1)) 115 (-1)) 116 (-1)) 117 (-1)) 118 (-1)) 119 (-1)) 120 (-1)) 121 (-1)) 122 (-1))))] := hD
                              refine lv_iinc (v := 13) (lv' := [(2, .int 13), (1, .int 0), (0, .ref a0)]) hx hb dX12_body_47 hl (k := 0) rfl (by decide) (by decide) rfl (fun ls hl => ?_)
                              refine lv_goto (tgt := 26) hx hb dX12_body_50 (by decide) ?_
                              refine lv_iload_n hx hb dX12_body_26 rfl (lv_at hl 0 rfl) ?_
                              refine lv_bipush (v := 24) hx hb dX12_body_27 (by decide) ?_
                              refine lv_icmp_ge (tgt := 53) hx hb dX12_body_29 (by decide) (fun c_15 => ?_) (fun c_15 => ?_)
                              ·
                                exact absurd c_15 (by decide)
                              ·
                                refine lv_aload_n hx hb dX12_body_32 rfl (lv_at hl 2 rfl) ?_
                                refine va_get (D := G.1) (ci := 12) (v := .ref a2) (C := RX12) (T := TX12) (N := 52) hx hb hts inG_X12 hown hK hP 0 rfl rfl 3 (by decide) (hts _ fl_X12_13) (fun _ h9 => h9) rfl dX12_body_33 ?_
                                refine lv_bipush (v := 110) hx hb dX12_body_36 (by decide) ?_
                                refine lv_bipush (v := 24) hx hb dX12_body_38 (by decide) ?_
                                refine lv_iload_n hx hb dX12_body_40 rfl (lv_at hl 1 rfl) ?_
                                refine lv_imul hx hb dX12_body_41 ?_
                                refine g5_ti (v := 0) (by decide) ?_
                                refine lv_iadd hx hb dX12_body_42 ?_
                                refine g5_ti (v := 110) (by decide) ?_
                                refine lv_iload_n hx hb dX12_body_43 rfl (lv_at hl 0 rfl) ?_
                                refine lv_iadd hx hb dX12_body_44 ?_
                                refine g5_ti (v := 123) (by decide) ?_
                                refine lv_iconst (v := (-1)) hx hb dX12_body_45 (by decide) ?_
                                refine va_iast hx hb hK hP hD hS 1 0 rfl rfl (i := 123) (x := (-1)) (by unfold vp_in; decide) dX12_body_46 (fun H locs hP hD hS => ?_)
                                have hP : va_P G.1 vwCl [(a0, .inr (12, [.int 0, .int 0, .ref a1, .ref a2, .ref a3, .ref a4, .int 0, .ref a5, .int 0, .int 0, .int 0, .int 0, .long 0, .int (-1), .int 0, .int 0, .ref a6, .int 0, .ref a7, .ref a8, .int 0, .ref a9, .ref a10, .int 0, .int 0, .ref a11, .ref a12, .int 0, .ref a13, .ref a14, .int 0, .long 0, .long 0, .int 0, .int 0, .int 0, .int 0, .int 0, .ref a15, .int 0, .int 0, .ref a16, .int 0, .ref a17, .ref a18, .ref a19, .int 0, .ref a20, .ref a21, .long 0, .ref a22, .int 0])), (a2, .inl (G.2 0, 5740, .inl (upd (upd (upd (upd (upd (upd (upd (upd (upd (upd (upd (upd (upd (upd (upd (upd (upd (fun _ => 0) 3 (-1)) 4 1000) 6 (-1)) 110 (-1)) 111 (-1)) 112 (-1)) 113 (-1)) 114 (-1)) 115 (-1)) 116 (-1)) 117 (-1)) 118 (-1)) 119 (-1)) 120 (-1)) 121 (-1)) 122 (-1)) 123 (-1))))] H := hP
                                have hD : va_D A [(a0, .inr (12, [.int 0, .int 0, .ref a1, .ref a2, .ref a3, .ref a4, .int 0, .ref a5, .int 0, .int 0, .int 0, .int 0, .long 0, .int (-1), .int 0, .int 0, .ref a6, .int 0, .ref a7, .ref a8, .int 0, .ref a9, .ref a10, .int 0, .int 0, .ref a11, .ref a12, .int 0, .ref a13, .ref a14, .int 0, .long 0, .long 0, .int 0, .int 0, .int 0, .int 0, .int 0, .ref a15, .int 0, .int 0, .ref a16, .int 0, .ref a17, .ref a18, .ref a19, .int 0, .ref a20, .ref a21, .long 0, .ref a22, .int 0])), (a2, .inl (G.2 0, 5740, .inl (upd (upd (upd (upd (upd (upd (upd (upd (upd (upd (upd (upd (upd (upd (upd (upd (upd (fun _ => 0) 3 (-1)) 4 1000) 6 (-1)) 110 (-1)) 111 (-1)) 112 (-1)) 113 (-1)) 114 (-1)) 115 (-1)) 116 (-1)) 117 (-1)) 118 (-1)) 119 (-1)) 120 (-1)) 121 (-1)) 122 (-1)) 123 (-1))))] := hD
                                refine lv_iinc (v := 14) (lv' := [(2, .int 14), (1, .int 0), (0, .ref a0)]) hx hb dX12_body_47 hl (k := 0) rfl (by decide) (by decide) rfl (fun ls hl => ?_)
                                refine lv_goto (tgt := 26) hx hb dX12_body_50 (by decide) ?_
                                refine lv_iload_n hx hb dX12_body_26 rfl (lv_at hl 0 rfl) ?_
                                refine lv_bipush (v := 24) hx hb dX12_body_27 (by decide) ?_
                                refine lv_icmp_ge (tgt := 53) hx hb dX12_body_29 (by decide) (fun c_16 => ?_) (fun c_16 => ?_)
                                ·
                                  exact absurd c_16 (by decide)
                                ·
                                  refine lv_aload_n hx hb dX12_body_32 rfl (lv_at hl 2 rfl) ?_
                                  refine va_get (D := G.1) (ci := 12) (v := .ref a2) (C := RX12) (T := TX12) (N := 52) hx hb hts inG_X12 hown hK hP 0 rfl rfl 3 (by decide) (hts _ fl_X12_13) (fun _ h9 => h9) rfl dX12_body_33 ?_
                                  refine lv_bipush (v := 110) hx hb dX12_body_36 (by decide) ?_
                                  refine lv_bipush (v := 24) hx hb dX12_body_38 (by decide) ?_
                                  refine lv_iload_n hx hb dX12_body_40 rfl (lv_at hl 1 rfl) ?_
                                  refine lv_imul hx hb dX12_body_41 ?_
                                  refine g5_ti (v := 0) (by decide) ?_
                                  refine lv_iadd hx hb dX12_body_42 ?_
                                  refine g5_ti (v := 110) (by decide) ?_
                                  refine lv_iload_n hx hb dX12_body_43 rfl (lv_at hl 0 rfl) ?_
                                  refine lv_iadd hx hb dX12_body_44 ?_
                                  refine g5_ti (v := 124) (by decide) ?_
                                  refine lv_iconst (v := (-1)) hx hb dX12_body_45 (by decide) ?_
                                  refine va_iast hx hb hK hP hD hS 1 0 rfl rfl (i := 124) (x := (-1)) (by unfold vp_in; decide) dX12_body_46 (fun H locs hP hD hS => ?_)
                                  have hP : va_P G.1 vwCl [(a0, .inr (12, [.int 0, .int 0, .ref a1, .ref a2, .ref a3, .ref a4, .int 0, .ref a5, .int 0, .int 0, .int 0, .int 0, .long 0, .int (-1), .int 0, .int 0, .ref a6, .int 0, .ref a7, .ref a8, .int 0, .ref a9, .ref a10, .int 0, .int 0, .ref a11, .ref a12, .int 0, .ref a13, .ref a14, .int 0, .long 0, .long 0, .int 0, .int 0, .int 0, .int 0, .int 0, .ref a15, .int 0, .int 0, .ref a16, .int 0, .ref a17, .ref a18, .ref a19, .int 0, .ref a20, .ref a21, .long 0, .ref a22, .int 0])), (a2, .inl (G.2 0, 5740, .inl (upd (upd (upd (upd (upd (upd (upd (upd (upd (upd (upd (upd (upd (upd (upd (upd (upd (upd (fun _ => 0) 3 (-1)) 4 1000) 6 (-1)) 110 (-1)) 111 (-1)) 112 (-1)) 113 (-1)) 114 (-1)) 115 (-1)) 116 (-1)) 117 (-1)) 118 (-1)) 119 (-1)) 120 (-1)) 121 (-1)) 122 (-1)) 123 (-1)) 124 (-1))))] H := hP
                                  have hD : va_D A [(a0, .inr (12, [.int 0, .int 0, .ref a1, .ref a2, .ref a3, .ref a4, .int 0, .ref a5, .int 0, .int 0, .int 0, .int 0, .long 0, .int (-1), .int 0, .int 0, .ref a6, .int 0, .ref a7, .ref a8, .int 0, .ref a9, .ref a10, .int 0, .int 0, .ref a11, .ref a12, .int 0, .ref a13, .ref a14, .int 0, .long 0, .long 0, .int 0, .int 0, .int 0, .int 0, .int 0, .ref a15, .int 0, .int 0, .ref a16, .int 0, .ref a17, .ref a18, .ref a19, .int 0, .ref a20, .ref a21, .long 0, .ref a22, .int 0])), (a2, .inl (G.2 0, 5740, .inl (upd (upd (upd (upd (upd (upd (upd (upd (upd (upd (upd (upd (upd (upd (upd (upd (upd (upd (fun _ => 0) 3 (-1)) 4 1000) 6 (-1)) 110 (-1)) 111 (-1)) 112 (-1)) 113 (-1)) 114 (-1)) 115 (-1)) 116 (-1)) 117 (-1)) 118 (-1)) 119 (-1)) 120 (-1)) 121 (-1)) 122 (-1)) 123 (-1)) 124 (-1))))] := hD
                                  refine lv_iinc (v := 15) (lv' := [(2, .int 15), (1, .int 0), (0, .ref a0)]) hx hb dX12_body_47 hl (k := 0) rfl (by decide) (by decide) rfl (fun ls hl => ?_)
                                  refine lv_goto (tgt := 26) hx hb dX12_body_50 (by decide) ?_
                                  refine lv_iload_n hx hb dX12_body_26 rfl (lv_at hl 0 rfl) ?_
                                  refine lv_bipush (v := 24) hx hb dX12_body_27 (by decide) ?_
                                  refine lv_icmp_ge (tgt := 53) hx hb dX12_body_29 (by decide) (fun c_17 => ?_) (fun c_17 => ?_)
                                  ·
                                    exact absurd c_17 (by decide)
                                  ·
                                    refine lv_aload_n hx hb dX12_body_32 rfl (lv_at hl 2 rfl) ?_
                                    refine va_get (D := G.1) (ci := 12) (v := .ref a2) (C := RX12) (T := TX12) (N := 52) hx hb hts inG_X12 hown hK hP 0 rfl rfl 3 (by decide) (hts _ fl_X12_13) (fun _ h9 => h9) rfl dX12_body_33 ?_
                                    refine lv_bipush (v := 110) hx hb dX12_body_36 (by decide) ?_
                                    refine lv_bipush (v := 24) hx hb dX12_body_38 (by decide) ?_
                                    refine lv_iload_n hx hb dX12_body_40 rfl (lv_at hl 1 rfl) ?_
                                    refine lv_imul hx hb dX12_body_41 ?_
                                    refine g5_ti (v := 0) (by decide) ?_
                                    refine lv_iadd hx hb dX12_body_42 ?_
                                    refine g5_ti (v := 110) (by decide) ?_
                                    refine lv_iload_n hx hb dX12_body_43 rfl (lv_at hl 0 rfl) ?_
                                    refine lv_iadd hx hb dX12_body_44 ?_
                                    refine g5_ti (v := 125) (by decide) ?_
                                    refine lv_iconst (v := (-1)) hx hb dX12_body_45 (by decide) ?_
                                    refine va_iast hx hb hK hP hD hS 1 0 rfl rfl (i := 125) (x := (-1)) (by unfold vp_in; decide) dX12_body_46 (fun H locs hP hD hS => ?_)
                                    have hP : va_P G.1 vwCl [(a0, .inr (12, [.int 0, .int 0, .ref a1, .ref a2, .ref a3, .ref a4, .int 0, .ref a5, .int 0, .int 0, .int 0, .int 0, .long 0, .int (-1), .int 0, .int 0, .ref a6, .int 0, .ref a7, .ref a8, .int 0, .ref a9, .ref a10, .int 0, .int 0, .ref a11, .ref a12, .int 0, .ref a13, .ref a14, .int 0, .long 0, .long 0, .int 0, .int 0, .int 0, .int 0, .int 0, .ref a15, .int 0, .int 0, .ref a16, .int 0, .ref a17, .ref a18, .ref a19, .int 0, .ref a20, .ref a21, .long 0, .ref a22, .int 0])), (a2, .inl (G.2 0, 5740, .inl (upd (upd (upd (upd (upd (upd (upd (upd (upd (upd (upd (upd (upd (upd (upd (upd (upd (upd (upd (fun _ => 0) 3 (-1)) 4 1000) 6 (-1)) 110 (-1)) 111 (-1)) 112 (-1)) 113 (-1)) 114 (-1)) 115 (-1)) 116 (-1)) 117 (-1)) 118 (-1)) 119 (-1)) 120 (-1)) 121 (-1)) 122 (-1)) 123 (-1)) 124 (-1)) 125 (-1))))] H := hP
                                    have hD : va_D A [(a0, .inr (12, [.int 0, .int 0, .ref a1, .ref a2, .ref a3, .ref a4, .int 0, .ref a5, .int 0, .int 0, .int 0, .int 0, .long 0, .int (-1), .int 0, .int 0, .ref a6, .int 0, .ref a7, .ref a8, .int 0, .ref a9, .ref a10, .int 0, .int 0, .ref a11, .ref a12, .int 0, .ref a13, .ref a14, .int 0, .long 0, .long 0, .int 0, .int 0, .int 0, .int 0, .int 0, .ref a15, .int 0, .int 0, .ref a16, .int 0, .ref a17, .ref a18, .ref a19, .int 0, .ref a20, .ref a21, .long 0, .ref a22, .int 0])), (a2, .inl (G.2 0, 5740, .inl (upd (upd (upd (upd (upd (upd (upd (upd (upd (upd (upd (upd (upd (upd (upd (upd (upd (upd (upd (fun _ => 0) 3 (-1)) 4 1000) 6 (-1)) 110 (-1)) 111 (-1)) 112 (-1)) 113 (-1)) 114 (-1)) 115 (-1)) 116 (-1)) 117 (-1)) 118 (-1)) 119 (-1)) 120 (-1)) 121 (-1)) 122 (-1)) 123 (-1)) 124 (-1)) 125 (-1))))] := hD
                                    refine lv_iinc (v := 16) (lv' := [(2, .int 16), (1, .int 0), (0, .ref a0)]) hx hb dX12_body_47 hl (k := 0) rfl (by decide) (by decide) rfl (fun ls hl => ?_)
                                    refine lv_goto (tgt := 26) hx hb dX12_body_50 (by decide) ?_
                                    refine lv_iload_n hx hb dX12_body_26 rfl (lv_at hl 0 rfl) ?_
                                    refine lv_bipush (v := 24) hx hb dX12_body_27 (by decide) ?_
                                    refine lv_icmp_ge (tgt := 53) hx hb dX12_body_29 (by decide) (fun c_18 => ?_) (fun c_18 => ?_)
                                    ·
                                      exact absurd c_18 (by decide)
                                    ·
                                      refine lv_aload_n hx hb dX12_body_32 rfl (lv_at hl 2 rfl) ?_
                                      refine va_get (D := G.1) (ci := 12) (v := .ref a2) (C := RX12) (T := TX12) (N := 52) hx hb hts inG_X12 hown hK hP 0 rfl rfl 3 (by decide) (hts _ fl_X12_13) (fun _ h9 => h9) rfl dX12_body_33 ?_
                                      refine lv_bipush (v := 110) hx hb dX12_body_36 (by decide) ?_
                                      refine lv_bipush (v := 24) hx hb dX12_body_38 (by decide) ?_
                                      refine lv_iload_n hx hb dX12_body_40 rfl (lv_at hl 1 rfl) ?_
                                      refine lv_imul hx hb dX12_body_41 ?_
                                      refine g5_ti (v := 0) (by decide) ?_
                                      refine lv_iadd hx hb dX12_body_42 ?_
                                      refine g5_ti (v := 110) (by decide) ?_
                                      refine lv_iload_n hx hb dX12_body_43 rfl (lv_at hl 0 rfl) ?_
                                      refine lv_iadd hx hb dX12_body_44 ?_
                                      refine g5_ti (v := 126) (by decide) ?_
                                      refine lv_iconst (v := (-1)) hx hb dX12_body_45 (by decide) ?_
                                      refine va_iast hx hb hK hP hD hS 1 0 rfl rfl (i := 126) (x := (-1)) (by unfold vp_in; decide) dX12_body_46 (fun H locs hP hD hS => ?_)
                                      have hP : va_P G.1 vwCl [(a0, .inr (12, [.int 0, .int 0, .ref a1, .ref a2, .ref a3, .ref a4, .int 0, .ref a5, .int 0, .int 0, .int 0, .int 0, .long 0, .int (-1), .int 0, .int 0, .ref a6, .int 0, .ref a7, .ref a8, .int 0, .ref a9, .ref a10, .int 0, .int 0, .ref a11, .ref a12, .int 0, .ref a13, .ref a14, .int 0, .long 0, .long 0, .int 0, .int 0, .int 0, .int 0, .int 0, .ref a15, .int 0, .int 0, .ref a16, .int 0, .ref a17, .ref a18, .ref a19, .int 0, .ref a20, .ref a21, .long 0, .ref a22, .int 0])), (a2, .inl (G.2 0, 5740, .inl (upd (upd (upd (upd (upd (upd (upd (upd (upd (upd (upd (upd (upd (upd (upd (upd (upd (upd (upd (upd (fun _ => 0) 3 (-1)) 4 1000) 6 (-1)) 110 (-1)) 111 (-1)) 112 (-1)) 113 (-1)) 114 (-1)) 115 (-1)) 116 (-1)) 117 (-1)) 118 (-1)) 119 (-1)) 120 (-1)) 121 (-1)) 122 (-1)) 123 (-1)) 124 (-1)) 125 (-1)) 126 (-1))))] H := hP
                                      have hD : va_D A [(a0, .inr (12, [.int 0, .int 0, .ref a1, .ref a2, .ref a3, .ref a4, .int 0, .ref a5, .int 0, .int 0, .int 0, .int 0, .long 0, .int (-1), .int 0, .int 0, .ref a6, .int 0, .ref a7, .ref a8, .int 0, .ref a9, .ref a10, .int 0, .int 0, .ref a11, .ref a12, .int 0, .ref a13, .ref a14, .int 0, .long 0, .long 0, .int 0, .int 0, .int 0, .int 0, .int 0, .ref a15, .int 0, .int 0, .ref a16, .int 0, .ref a17, .ref a18, .ref a19, .int 0, .ref a20, .ref a21, .long 0, .ref a22, .int 0])), (a2, .inl (G.2 0, 5740, .inl (upd (upd (upd (upd (upd (upd (upd (upd (upd (upd (upd (upd (upd (upd (upd (upd (upd (upd (upd (upd (fun _ => 0) 3 (-1)) 4 1000) 6 (-1)) 110 (-1)) 111 (-1)) 112 (-1)) 113 (-1)) 114 (-1)) 115 (-1)) 116 (-1)) 117 (-1)) 118 (-1)) 119 (-1)) 120 (-1)) 121 (-1)) 122 (-1)) 123 (-1)) 124 (-1)) 125 (-1)) 126 (-1))))] := hD
                                      refine lv_iinc (v := 17) (lv' := [(2, .int 17), (1, .int 0), (0, .ref a0)]) hx hb dX12_body_47 hl (k := 0) rfl (by decide) (by decide) rfl (fun ls hl => ?_)
                                      refine lv_goto (tgt := 26) hx hb dX12_body_50 (by decide) ?_
                                      refine lv_iload_n hx hb dX12_body_26 rfl (lv_at hl 0 rfl) ?_
                                      refine lv_bipush (v := 24) hx hb dX12_body_27 (by decide) ?_
                                      refine lv_icmp_ge (tgt := 53) hx hb dX12_body_29 (by decide) (fun c_19 => ?_) (fun c_19 => ?_)
                                      ·
                                        exact absurd c_19 (by decide)
                                      ·
                                        refine lv_aload_n hx hb dX12_body_32 rfl (lv_at hl 2 rfl) ?_
                                        refine va_get (D := G.1) (ci := 12) (v := .ref a2) (C := RX12) (T := TX12) (N := 52) hx hb hts inG_X12 hown hK hP 0 rfl rfl 3 (by decide) (hts _ fl_X12_13) (fun _ h9 => h9) rfl dX12_body_33 ?_
                                        refine lv_bipush (v := 110) hx hb dX12_body_36 (by decide) ?_
                                        refine lv_bipush (v := 24) hx hb dX12_body_38 (by decide) ?_
                                        refine lv_iload_n hx hb dX12_body_40 rfl (lv_at hl 1 rfl) ?_
                                        refine lv_imul hx hb dX12_body_41 ?_
                                        refine g5_ti (v := 0) (by decide) ?_
                                        refine lv_iadd hx hb dX12_body_42 ?_
                                        refine g5_ti (v := 110) (by decide) ?_
                                        refine lv_iload_n hx hb dX12_body_43 rfl (lv_at hl 0 rfl) ?_
                                        refine lv_iadd hx hb dX12_body_44 ?_
                                        refine g5_ti (v := 127) (by decide) ?_
                                        refine lv_iconst (v := (-1)) hx hb dX12_body_45 (by decide) ?_
                                        refine va_iast hx hb hK hP hD hS 1 0 rfl rfl (i := 127) (x := (-1)) (by unfold vp_in; decide) dX12_body_46 (fun H locs hP hD hS => ?_)
                                        have hP : va_P G.1 vwCl [(a0, .inr (12, [.int 0, .int 0, .ref a1, .ref a2, .ref a3, .ref a4, .int 0, .ref a5, .int 0, .int 0, .int 0, .int 0, .long 0, .int (-1), .int 0, .int 0, .ref a6, .int 0, .ref a7, .ref a8, .int 0, .ref a9, .ref a10, .int 0, .int 0, .ref a11, .ref a12, .int 0, .ref a13, .ref a14, .int 0, .long 0, .long 0, .int 0, .int 0, .int 0, .int 0, .int 0, .ref a15, .int 0, .int 0, .ref a16, .int 0, .ref a17, .ref a18, .ref a19, .int 0, .ref a20, .ref a21, .long 0, .ref a22, .int 0])), (a2, .inl (G.2 0, 5740, .inl (upd (upd (upd (upd (upd (upd (upd (upd (upd (upd (upd (upd (upd (upd (upd (upd (upd (upd (upd (upd (upd (fun _ => 0) 3 (-1)) 4 1000) 6 (-1)) 110 (-1)) 111 (-1)) 112 (-1)) 113 (-1)) 114 (-1)) 115 (-1)) 116 (-1)) 117 (-1)) 118 (-1)) 119 (-1)) 120 (-1)) 121 (-1)) 122 (-1)) 123 (-1)) 124 (-1)) 125 (-1)) 126 (-1)) 127 (-1))))] H := hP
                                        have hD : va_D A [(a0, .inr (12, [.int 0, .int 0, .ref a1, .ref a2, .ref a3, .ref a4, .int 0, .ref a5, .int 0, .int 0, .int 0, .int 0, .long 0, .int (-1), .int 0, .int 0, .ref a6, .int 0, .ref a7, .ref a8, .int 0, .ref a9, .ref a10, .int 0, .int 0, .ref a11, .ref a12, .int 0, .ref a13, .ref a14, .int 0, .long 0, .long 0, .int 0, .int 0, .int 0, .int 0, .int 0, .ref a15, .int 0, .int 0, .ref a16, .int 0, .ref a17, .ref a18, .ref a19, .int 0, .ref a20, .ref a21, .long 0, .ref a22, .int 0])), (a2, .inl (G.2 0, 5740, .inl (upd (upd (upd (upd (upd (upd (upd (upd (upd (upd (upd (upd (upd (upd (upd (upd (upd (upd (upd (upd (upd (fun _ => 0) 3 (-1)) 4 1000) 6 (-1)) 110 (-1)) 111 (-1)) 112 (-1)) 113 (-1)) 114 (-1)) 115 (-1)) 116 (-1)) 117 (-1)) 118 (-1)) 119 (-1)) 120 (-1)) 121 (-1)) 122 (-1)) 123 (-1)) 124 (-1)) 125 (-1)) 126 (-1)) 127 (-1))))] := hD
                                        refine lv_iinc (v := 18) (lv' := [(2, .int 18), (1, .int 0), (0, .ref a0)]) hx hb dX12_body_47 hl (k := 0) rfl (by decide) (by decide) rfl (fun ls hl => ?_)
                                        refine lv_goto (tgt := 26) hx hb dX12_body_50 (by decide) ?_
                                        refine lv_iload_n hx hb dX12_body_26 rfl (lv_at hl 0 rfl) ?_
                                        refine lv_bipush (v := 24) hx hb dX12_body_27 (by decide) ?_
                                        refine lv_icmp_ge (tgt := 53) hx hb dX12_body_29 (by decide) (fun c_20 => ?_) (fun c_20 => ?_)
                                        ·
                                          exact absurd c_20 (by decide)
                                        ·
                                          refine lv_aload_n hx hb dX12_body_32 rfl (lv_at hl 2 rfl) ?_
                                          refine va_get (D := G.1) (ci := 12) (v := .ref a2) (C := RX12) (T := TX12) (N := 52) hx hb hts inG_X12 hown hK hP 0 rfl rfl 3 (by decide) (hts _ fl_X12_13) (fun _ h9 => h9) rfl dX12_body_33 ?_
                                          refine lv_bipush (v := 110) hx hb dX12_body_36 (by decide) ?_
                                          refine lv_bipush (v := 24) hx hb dX12_body_38 (by decide) ?_
                                          refine lv_iload_n hx hb dX12_body_40 rfl (lv_at hl 1 rfl) ?_
                                          refine lv_imul hx hb dX12_body_41 ?_
                                          refine g5_ti (v := 0) (by decide) ?_
                                          refine lv_iadd hx hb dX12_body_42 ?_
                                          refine g5_ti (v := 110) (by decide) ?_
                                          refine lv_iload_n hx hb dX12_body_43 rfl (lv_at hl 0 rfl) ?_
                                          refine lv_iadd hx hb dX12_body_44 ?_
                                          refine g5_ti (v := 128) (by decide) ?_
                                          refine lv_iconst (v := (-1)) hx hb dX12_body_45 (by decide) ?_
                                          refine va_iast hx hb hK hP hD hS 1 0 rfl rfl (i := 128) (x := (-1)) (by unfold vp_in; decide) dX12_body_46 (fun H locs hP hD hS => ?_)
                                          have hP : va_P G.1 vwCl [(a0, .inr (12, [.int 0, .int 0, .ref a1, .ref a2, .ref a3, .ref a4, .int 0, .ref a5, .int 0, .int 0, .int 0, .int 0, .long 0, .int (-1), .int 0, .int 0, .ref a6, .int 0, .ref a7, .ref a8, .int 0, .ref a9, .ref a10, .int 0, .int 0, .ref a11, .ref a12, .int 0, .ref a13, .ref a14, .int 0, .long 0, .long 0, .int 0, .int 0, .int 0, .int 0, .int 0, .ref a15, .int 0, .int 0, .ref a16, .int 0, .ref a17, .ref a18, .ref a19, .int 0, .ref a20, .ref a21, .long 0, .ref a22, .int 0])), (a2, .inl (G.2 0, 5740, .inl (upd (upd (upd (upd (upd (upd (upd (upd (upd (upd (upd (upd (upd (upd (upd (upd (upd (upd (upd (upd (upd (upd (fun _ => 0) 3 (-1)) 4 1000) 6 (-1)) 110 (-1)) 111 (-1)) 112 (-1)) 113 (-1)) 114 (-1)) 115 (-1)) 116 (-1)) 117 (-1)) 118 (-1)) 119 (-1)) 120 (-1)) 121 (-1)) 122 (-1)) 123 (-1)) 124 (-1)) 125 (-1)) 126 (-1)) 127 (-1)) 128 (-1))))] H := hP
                                          have hD : va_D A [(a0, .inr (12, [.int 0, .int 0, .ref a1, .ref a2, .ref a3, .ref a4, .int 0, .ref a5, .int 0, .int 0, .int 0, .int 0, .long 0, .int (-1), .int 0, .int 0, .ref a6, .int 0, .ref a7, .ref a8, .int 0, .ref a9, .ref a10, .int 0, .int 0, .ref a11, .ref a12, .int 0, .ref a13, .ref a14, .int 0, .long 0, .long 0, .int 0, .int 0, .int 0, .int 0, .int 0, .ref a15, .int 0, .int 0, .ref a16, .int 0, .ref a17, .ref a18, .ref a19, .int 0, .ref a20, .ref a21, .long 0, .ref a22, .int 0])), (a2, .inl (G.2 0, 5740, .inl (upd (upd (upd (upd (upd (upd (upd (upd (upd (upd (upd (upd (upd (upd (upd (upd (upd (upd (upd (upd (upd (upd (fun _ => 0) 3 (-1)) 4 1000) 6 (-1)) 110 (-1)) 111 (-1)) 112 (-1)) 113 (-1)) 114 (-1)) 115 (-1)) 116 (-1)) 117 (-1)) 118 (-1)) 119 (-1)) 120 (-1)) 121 (-1)) 122 (-1)) 123 (-1)) 124 (-1)) 125 (-1)) 126 (-1)) 127 (-1)) 128 (-1))))] := hD
                                          refine lv_iinc (v := 19) (lv' := [(2, .int 19), (1, .int 0), (0, .ref a0)]) hx hb dX12_body_47 hl (k := 0) rfl (by decide) (by decide) rfl (fun ls hl => ?_)
                                          refine lv_goto (tgt := 26) hx hb dX12_body_50 (by decide) ?_
                                          refine lv_iload_n hx hb dX12_body_26 rfl (lv_at hl 0 rfl) ?_
                                          refine lv_bipush (v := 24) hx hb dX12_body_27 (by decide) ?_
                                          refine lv_icmp_ge (tgt := 53) hx hb dX12_body_29 (by decide) (fun c_21 => ?_) (fun c_21 => ?_)
                                          ·
                                            exact absurd c_21 (by decide)
                                          ·
                                            refine lv_aload_n hx hb dX12_body_32 rfl (lv_at hl 2 rfl) ?_
                                            refine va_get (D := G.1) (ci := 12) (v := .ref a2) (C := RX12) (T := TX12) (N := 52) hx hb hts inG_X12 hown hK hP 0 rfl rfl 3 (by decide) (hts _ fl_X12_13) (fun _ h9 => h9) rfl dX12_body_33 ?_
                                            refine lv_bipush (v := 110) hx hb dX12_body_36 (by decide) ?_
                                            refine lv_bipush (v := 24) hx hb dX12_body_38 (by decide) ?_
                                            refine lv_iload_n hx hb dX12_body_40 rfl (lv_at hl 1 rfl) ?_
                                            refine lv_imul hx hb dX12_body_41 ?_
                                            refine g5_ti (v := 0) (by decide) ?_
                                            refine lv_iadd hx hb dX12_body_42 ?_
                                            refine g5_ti (v := 110) (by decide) ?_
                                            refine lv_iload_n hx hb dX12_body_43 rfl (lv_at hl 0 rfl) ?_
                                            refine lv_iadd hx hb dX12_body_44 ?_
                                            refine g5_ti (v := 129) (by decide) ?_
                                            refine lv_iconst (v := (-1)) hx hb dX12_body_45 (by decide) ?_
                                            refine va_iast hx hb hK hP hD hS 1 0 rfl rfl (i := 129) (x := (-1)) (by unfold vp_in; decide) dX12_body_46 (fun H locs hP hD hS => ?_)
                                            have hP : va_P G.1 vwCl [(a0, .inr (12, [.int 0, .int 0, .ref a1, .ref a2, .ref a3, .ref a4, .int 0, .ref a5, .int 0, .int 0, .int 0, .int 0, .long 0, .int (-1), .int 0, .int 0, .ref a6, .int 0, .ref a7, .ref a8, .int 0, .ref a9, .ref a10, .int 0, .int 0, .ref a11, .ref a12, .int 0, .ref a13, .ref a14, .int 0, .long 0, .long 0, .int 0, .int 0, .int 0, .int 0, .int 0, .ref a15, .int 0, .int 0, .ref a16, .int 0, .ref a17, .ref a18, .ref a19, .int 0, .ref a20, .ref a21, .long 0, .ref a22, .int 0])), (a2, .inl (G.2 0, 5740, .inl (upd (upd (upd (upd (upd (upd (upd (upd (upd (upd (upd (upd (upd (upd (upd (upd (upd (upd (upd (upd (upd (upd (upd (fun _ => 0) 3 (-1)) 4 1000) 6 (-1)) 110 (-1)) 111 (-1)) 112 (-1)) 113 (-1)) 114 (-1)) 115 (-1)) 116 (-1)) 117 (-1)) 118 (-1)) 119 (-1)) 120 (-1)) 121 (-1)) 122 (-1)) 123 (-1)) 124 (-1)) 125 (-1)) 126 (-1)) 127 (-1)) 128 (-1)) 129 (-1))))] H := hP
                                            have hD : va_D A [(a0, .inr (12, [.int 0, .int 0, .ref a1, .ref a2, .ref a3, .ref a4, .int 0, .ref a5, .int 0, .int 0, .int 0, .int 0, .long 0, .int (-1), .int 0, .int 0, .ref a6, .int 0, .ref a7, .ref a8, .int 0, .ref a9, .ref a10, .int 0, .int 0, .ref a11, .ref a12, .int 0, .ref a13, .ref a14, .int 0, .long 0, .long 0, .int 0, .int 0, .int 0, .int 0, .int 0, .ref a15, .int 0, .int 0, .ref a16, .int 0, .ref a17, .ref a18, .ref a19, .int 0, .ref a20, .ref a21, .long 0, .ref a22, .int 0])), (a2, .inl (G.2 0, 5740, .inl (upd (upd (upd (upd (upd (upd (upd (upd (upd (upd (upd (upd (upd (upd (upd (upd (upd (upd (upd (upd (upd (upd (upd (fun _ => 0) 3 (-1)) 4 1000) 6 (-1)) 110 (-1)) 111 (-1)) 112 (-1)) 113 (-1)) 114 (-1)) 115 (-1)) 116 (-1)) 117 (-1)) 118 (-1)) 119 (-1)) 120 (-1)) 121 (-1)) 122 (-1)) 123 (-1)) 124 (-1)) 125 (-1)) 126 (-1)) 127 (-1)) 128 (-1)) 129 (-1))))] := hD
                                            refine lv_iinc (v := 20) (lv' := [(2, .int 20), (1, .int 0), (0, .ref a0)]) hx hb dX12_body_47 hl (k := 0) rfl (by decide) (by decide) rfl (fun ls hl => ?_)
                                            refine lv_goto (tgt := 26) hx hb dX12_body_50 (by decide) ?_
                                            refine lv_iload_n hx hb dX12_body_26 rfl (lv_at hl 0 rfl) ?_
                                            refine lv_bipush (v := 24) hx hb dX12_body_27 (by decide) ?_
                                            refine lv_icmp_ge (tgt := 53) hx hb dX12_body_29 (by decide) (fun c_22 => ?_) (fun c_22 => ?_)
                                            ·
                                              exact absurd c_22 (by decide)
                                            ·
                                              refine lv_aload_n hx hb dX12_body_32 rfl (lv_at hl 2 rfl) ?_
                                              refine va_get (D := G.1) (ci := 12) (v := .ref a2) (C := RX12) (T := TX12) (N := 52) hx hb hts inG_X12 hown hK hP 0 rfl rfl 3 (by decide) (hts _ fl_X12_13) (fun _ h9 => h9) rfl dX12_body_33 ?_
                                              refine lv_bipush (v := 110) hx hb dX12_body_36 (by decide) ?_
                                              refine lv_bipush (v := 24) hx hb dX12_body_38 (by decide) ?_
                                              refine lv_iload_n hx hb dX12_body_40 rfl (lv_at hl 1 rfl) ?_
                                              refine lv_imul hx hb dX12_body_41 ?_
                                              refine g5_ti (v := 0) (by decide) ?_
                                              refine lv_iadd hx hb dX12_body_42 ?_
                                              refine g5_ti (v := 110) (by decide) ?_
                                              refine lv_iload_n hx hb dX12_body_43 rfl (lv_at hl 0 rfl) ?_
                                              refine lv_iadd hx hb dX12_body_44 ?_
                                              refine g5_ti (v := 130) (by decide) ?_
                                              refine lv_iconst (v := (-1)) hx hb dX12_body_45 (by decide) ?_
                                              refine va_iast hx hb hK hP hD hS 1 0 rfl rfl (i := 130) (x := (-1)) (by unfold vp_in; decide) dX12_body_46 (fun H locs hP hD hS => ?_)
                                              have hP : va_P G.1 vwCl [(a0, .inr (12, [.int 0, .int 0, .ref a1, .ref a2, .ref a3, .ref a4, .int 0, .ref a5, .int 0, .int 0, .int 0, .int 0, .long 0, .int (-1), .int 0, .int 0, .ref a6, .int 0, .ref a7, .ref a8, .int 0, .ref a9, .ref a10, .int 0, .int 0, .ref a11, .ref a12, .int 0, .ref a13, .ref a14, .int 0, .long 0, .long 0, .int 0, .int 0, .int 0, .int 0, .int 0, .ref a15, .int 0, .int 0, .ref a16, .int 0, .ref a17, .ref a18, .ref a19, .int 0, .ref a20, .ref a21, .long 0, .ref a22, .int 0])), (a2, .inl (G.2 0, 5740, .inl (upd (upd (upd (upd (upd (upd (upd (upd (upd (upd (upd (upd (upd (upd (upd (upd (upd (upd (upd (upd (upd (upd (upd (upd (fun _ => 0) 3 (-1)) 4 1000) 6 (-1)) 110 (-1)) 111 (-1)) 112 (-1)) 113 (-1)) 114 (-1)) 115 (-1)) 116 (-1)) 117 (-1)) 118 (-1)) 119 (-1)) 120 (-1)) 121 (-1)) 122 (-1)) 123 (-1)) 124 (-1)) 125 (-1)) 126 (-1)) 127 (-1)) 128 (-1)) 129 (-1)) 130 (-1))))] H := hP
                                              have hD : va_D A [(a0, .inr (12, [.int 0, .int 0, .ref a1, .ref a2, .ref a3, .ref a4, .int 0, .ref a5, .int 0, .int 0, .int 0, .int 0, .long 0, .int (-1), .int 0, .int 0, .ref a6, .int 0, .ref a7, .ref a8, .int 0, .ref a9, .ref a10, .int 0, .int 0, .ref a11, .ref a12, .int 0, .ref a13, .ref a14, .int 0, .long 0, .long 0, .int 0, .int 0, .int 0, .int 0, .int 0, .ref a15, .int 0, .int 0, .ref a16, .int 0, .ref a17, .ref a18, .ref a19, .int 0, .ref a20, .ref a21, .long 0, .ref a22, .int 0])), (a2, .inl (G.2 0, 5740, .inl (upd (upd (upd (upd (upd (upd (upd (upd (upd (upd (upd (upd (upd (upd (upd (upd (upd (upd (upd (upd (upd (upd (upd (upd (fun _ => 0) 3 (-1)) 4 1000) 6 (-1)) 110 (-1)) 111 (-1)) 112 (-1)) 113 (-1)) 114 (-1)) 115 (-1)) 116 (-1)) 117 (-1)) 118 (-1)) 119 (-1)) 120 (-1)) 121 (-1)) 122 (-1)) 123 (-1)) 124 (-1)) 125 (-1)) 126 (-1)) 127 (-1)) 128 (-1)) 129 (-1)) 130 (-1))))] := hD
                                              refine lv_iinc (v := 21) (lv' := [(2, .int 21), (1, .int 0), (0, .ref a0)]) hx hb dX12_body_47 hl (k := 0) rfl (by decide) (by decide) rfl (fun ls hl => ?_)
                                              refine lv_goto (tgt := 26) hx hb dX12_body_50 (by decide) ?_
                                              refine lv_iload_n hx hb dX12_body_26 rfl (lv_at hl 0 rfl) ?_
                                              refine lv_bipush (v := 24) hx hb dX12_body_27 (by decide) ?_
                                              refine lv_icmp_ge (tgt := 53) hx hb dX12_body_29 (by decide) (fun c_23 => ?_) (fun c_23 => ?_)
                                              ·
                                                exact absurd c_23 (by decide)
                                              ·
                                                refine lv_aload_n hx hb dX12_body_32 rfl (lv_at hl 2 rfl) ?_
                                                refine va_get (D := G.1) (ci := 12) (v := .ref a2) (C := RX12) (T := TX12) (N := 52) hx hb hts inG_X12 hown hK hP 0 rfl rfl 3 (by decide) (hts _ fl_X12_13) (fun _ h9 => h9) rfl dX12_body_33 ?_
                                                refine lv_bipush (v := 110) hx hb dX12_body_36 (by decide) ?_
                                                refine lv_bipush (v := 24) hx hb dX12_body_38 (by decide) ?_
                                                refine lv_iload_n hx hb dX12_body_40 rfl (lv_at hl 1 rfl) ?_
                                                refine lv_imul hx hb dX12_body_41 ?_
                                                refine g5_ti (v := 0) (by decide) ?_
                                                refine lv_iadd hx hb dX12_body_42 ?_
                                                refine g5_ti (v := 110) (by decide) ?_
                                                refine lv_iload_n hx hb dX12_body_43 rfl (lv_at hl 0 rfl) ?_
                                                refine lv_iadd hx hb dX12_body_44 ?_
                                                refine g5_ti (v := 131) (by decide) ?_
                                                refine lv_iconst (v := (-1)) hx hb dX12_body_45 (by decide) ?_
                                                refine va_iast hx hb hK hP hD hS 1 0 rfl rfl (i := 131) (x := (-1)) (by unfold vp_in; decide) dX12_body_46 (fun H locs hP hD hS => ?_)
                                                have hP : va_P G.1 vwCl [(a0, .inr (12, [.int 0, .int 0, .ref a1, .ref a2, .ref a3, .ref a4, .int 0, .ref a5, .int 0, .int 0, .int 0, .int 0, .long 0, .int (-1), .int 0, .int 0, .ref a6, .int 0, .ref a7, .ref a8, .int 0, .ref a9, .ref a10, .int 0, .int 0, .ref a11, .ref a12, .int 0, .ref a13, .ref a14, .int 0, .long 0, .long 0, .int 0, .int 0, .int 0, .int 0, .int 0, .ref a15, .int 0, .int 0, .ref a16, .int 0, .ref a17, .ref a18, .ref a19, .int 0, .ref a20, .ref a21, .long 0, .ref a22, .int 0])), (a2, .inl (G.2 0, 5740, .inl (upd (upd (upd (upd (upd (upd (upd (upd (upd (upd (upd (upd (upd (upd (upd (upd (upd (upd (upd (upd (upd (upd (upd (upd (upd (fun _ => 0) 3 (-1)) 4 1000) 6 (-1)) 110 (-1)) 111 (-1)) 112 (-1)) 113 (-1)) 114 (-1)) 115 (-1)) 116 (-1)) 117 (-1)) 118 (-1)) 119 (-1)) 120 (-1)) 121 (-1)) 122 (-1)) 123 (-1)) 124 (-1)) 125 (-1)) 126 (-1)) 127 (-1)) 128 (-1)) 129 (-1)) 130 (-1)) 131 (-1))))] H := hP
                                                have hD : va_D A [(a0, .inr (12, [.int 0, .int 0, .ref a1, .ref a2, .ref a3, .ref a4, .int 0, .ref a5, .int 0, .int 0, .int 0, .int 0, .long 0, .int (-1), .int 0, .int 0, .ref a6, .int 0, .ref a7, .ref a8, .int 0, .ref a9, .ref a10, .int 0, .int 0, .ref a11, .ref a12, .int 0, .ref a13, .ref a14, .int 0, .long 0, .long 0, .int 0, .int 0, .int 0, .int 0, .int 0, .ref a15, .int 0, .int 0, .ref a16, .int 0, .ref a17, .ref a18, .ref a19, .int 0, .ref a20, .ref a21, .long 0, .ref a22, .int 0])), (a2, .inl (G.2 0, 5740, .inl (upd (upd (upd (upd (upd (upd (upd (upd (upd (upd (upd (upd (upd (upd (upd (upd (upd (upd (upd (upd (upd (upd (upd (upd (upd (fun _ => 0) 3 (-1)) 4 1000) 6 (-1)) 110 (-1)) 111 (-1)) 112 (-1)) 113 (-1)) 114 (-1)) 115 (-1)) 116 (-1)) 117 (-1)) 118 (-1)) 119 (-1)) 120 (-1)) 121 (-1)) 122 (-1)) 123 (-1)) 124 (-1)) 125 (-1)) 126 (-1)) 127 (-1)) 128 (-1)) 129 (-1)) 130 (-1)) 131 (-1))))] := hD
                                                refine lv_iinc (v := 22) (lv' := [(2, .int 22), (1, .int 0), (0, .ref a0)]) hx hb dX12_body_47 hl (k := 0) rfl (by decide) (by decide) rfl (fun ls hl => ?_)
                                                refine lv_goto (tgt := 26) hx hb dX12_body_50 (by decide) ?_
                                                refine lv_iload_n hx hb dX12_body_26 rfl (lv_at hl 0 rfl) ?_
                                                refine lv_bipush (v := 24) hx hb dX12_body_27 (by decide) ?_
                                                refine lv_icmp_ge (tgt := 53) hx hb dX12_body_29 (by decide) (fun c_24 => ?_) (fun c_24 => ?_)
                                                ·
                                                  exact absurd c_24 (by decide)
                                                ·
                                                  refine lv_aload_n hx hb dX12_body_32 rfl (lv_at hl 2 rfl) ?_
                                                  refine va_get (D := G.1) (ci := 12) (v := .ref a2) (C := RX12) (T := TX12) (N := 52) hx hb hts inG_X12 hown hK hP 0 rfl rfl 3 (by decide) (hts _ fl_X12_13) (fun _ h9 => h9) rfl dX12_body_33 ?_
                                                  refine lv_bipush (v := 110) hx hb dX12_body_36 (by decide) ?_
                                                  refine lv_bipush (v := 24) hx hb dX12_body_38 (by decide) ?_
                                                  refine lv_iload_n hx hb dX12_body_40 rfl (lv_at hl 1 rfl) ?_
                                                  refine lv_imul hx hb dX12_body_41 ?_
                                                  refine g5_ti (v := 0) (by decide) ?_
                                                  refine lv_iadd hx hb dX12_body_42 ?_
                                                  refine g5_ti (v := 110) (by decide) ?_
                                                  refine lv_iload_n hx hb dX12_body_43 rfl (lv_at hl 0 rfl) ?_
                                                  refine lv_iadd hx hb dX12_body_44 ?_
                                                  refine g5_ti (v := 132) (by decide) ?_
                                                  refine lv_iconst (v := (-1)) hx hb dX12_body_45 (by decide) ?_
                                                  refine va_iast hx hb hK hP hD hS 1 0 rfl rfl (i := 132) (x := (-1)) (by unfold vp_in; decide) dX12_body_46 (fun H locs hP hD hS => ?_)
                                                  have hP : va_P G.1 vwCl [(a0, .inr (12, [.int 0, .int 0, .ref a1, .ref a2, .ref a3, .ref a4, .int 0, .ref a5, .int 0, .int 0, .int 0, .int 0, .long 0, .int (-1), .int 0, .int 0, .ref a6, .int 0, .ref a7, .ref a8, .int 0, .ref a9, .ref a10, .int 0, .int 0, .ref a11, .ref a12, .int 0, .ref a13, .ref a14, .int 0, .long 0, .long 0, .int 0, .int 0, .int 0, .int 0, .int 0, .ref a15, .int 0, .int 0, .ref a16, .int 0, .ref a17, .ref a18, .ref a19, .int 0, .ref a20, .ref a21, .long 0, .ref a22, .int 0])), (a2, .inl (G.2 0, 5740, .inl (upd (upd (upd (upd (upd (upd (upd (upd (upd (upd (upd (upd (upd (upd (upd (upd (upd (upd (upd (upd (upd (upd (upd (upd (upd (upd (fun _ => 0) 3 (-1)) 4 1000) 6 (-1)) 110 (-1)) 111 (-1)) 112 (-1)) 113 (-1)) 114 (-1)) 115 (-1)) 116 (-1)) 117 (-1)) 118 (-1)) 119 (-1)) 120 (-1)) 121 (-1)) 122 (-1)) 123 (-1)) 124 (-1)) 125 (-1)) 126 (-1)) 127 (-1)) 128 (-1)) 129 (-1)) 130 (-1)) 131 (-1)) 132 (-1))))] H := hP
                                                  have hD : va_D A [(a0, .inr (12, [.int 0, .int 0, .ref a1, .ref a2, .ref a3, .ref a4, .int 0, .ref a5, .int 0, .int 0, .int 0, .int 0, .long 0, .int (-1), .int 0, .int 0, .ref a6, .int 0, .ref a7, .ref a8, .int 0, .ref a9, .ref a10, .int 0, .int 0, .ref a11, .ref a12, .int 0, .ref a13, .ref a14, .int 0, .long 0, .long 0, .int 0, .int 0, .int 0, .int 0, .int 0, .ref a15, .int 0, .int 0, .ref a16, .int 0, .ref a17, .ref a18, .ref a19, .int 0, .ref a20, .ref a21, .long 0, .ref a22, .int 0])), (a2, .inl (G.2 0, 5740, .inl (upd (upd (upd (upd (upd (upd (upd (upd (upd (upd (upd (upd (upd (upd (upd (upd (upd (upd (upd (upd (upd (upd (upd (upd (upd (upd (fun _ => 0) 3 (-1)) 4 1000) 6 (-1)) 110 (-1)) 111 (-1)) 112 (-1)) 113 (-1)) 114 (-1)) 115 (-1)) 116 (-1)) 117 (-1)) 118 (-1)) 119 (-1)) 120 (-1)) 121 (-1)) 122 (-1)) 123 (-1)) 124 (-1)) 125 (-1)) 126 (-1)) 127 (-1)) 128 (-1)) 129 (-1)) 130 (-1)) 131 (-1)) 132 (-1))))] := hD
                                                  refine lv_iinc (v := 23) (lv' := [(2, .int 23), (1, .int 0), (0, .ref a0)]) hx hb dX12_body_47 hl (k := 0) rfl (by decide) (by decide) rfl (fun ls hl => ?_)
                                                  refine lv_goto (tgt := 26) hx hb dX12_body_50 (by decide) ?_
                                                  refine lv_iload_n hx hb dX12_body_26 rfl (lv_at hl 0 rfl) ?_
                                                  refine lv_bipush (v := 24) hx hb dX12_body_27 (by decide) ?_
                                                  refine lv_icmp_ge (tgt := 53) hx hb dX12_body_29 (by decide) (fun c_25 => ?_) (fun c_25 => ?_)
                                                  ·
                                                    exact absurd c_25 (by decide)
                                                  ·
                                                    refine lv_aload_n hx hb dX12_body_32 rfl (lv_at hl 2 rfl) ?_
                                                    refine va_get (D := G.1) (ci := 12) (v := .ref a2) (C := RX12) (T := TX12) (N := 52) hx hb hts inG_X12 hown hK hP 0 rfl rfl 3 (by decide) (hts _ fl_X12_13) (fun _ h9 => h9) rfl dX12_body_33 ?_
                                                    refine lv_bipush (v := 110) hx hb dX12_body_36 (by decide) ?_
                                                    refine lv_bipush (v := 24) hx hb dX12_body_38 (by decide) ?_
                                                    refine lv_iload_n hx hb dX12_body_40 rfl (lv_at hl 1 rfl) ?_
                                                    refine lv_imul hx hb dX12_body_41 ?_
                                                    refine g5_ti (v := 0) (by decide) ?_
                                                    refine lv_iadd hx hb dX12_body_42 ?_
                                                    refine g5_ti (v := 110) (by decide) ?_
                                                    refine lv_iload_n hx hb dX12_body_43 rfl (lv_at hl 0 rfl) ?_
                                                    refine lv_iadd hx hb dX12_body_44 ?_
                                                    refine g5_ti (v := 133) (by decide) ?_
                                                    refine lv_iconst (v := (-1)) hx hb dX12_body_45 (by decide) ?_
                                                    refine va_iast hx hb hK hP hD hS 1 0 rfl rfl (i := 133) (x := (-1)) (by unfold vp_in; decide) dX12_body_46 (fun H locs hP hD hS => ?_)
                                                    have hP : va_P G.1 vwCl [(a0, .inr (12, [.int 0, .int 0, .ref a1, .ref a2, .ref a3, .ref a4, .int 0, .ref a5, .int 0, .int 0, .int 0, .int 0, .long 0, .int (-1), .int 0, .int 0, .ref a6, .int 0, .ref a7, .ref a8, .int 0, .ref a9, .ref a10, .int 0, .int 0, .ref a11, .ref a12, .int 0, .ref a13, .ref a14, .int 0, .long 0, .long 0, .int 0, .int 0, .int 0, .int 0, .int 0, .ref a15, .int 0, .int 0, .ref a16, .int 0, .ref a17, .ref a18, .ref a19, .int 0, .ref a20, .ref a21, .long 0, .ref a22, .int 0])), (a2, .inl (G.2 0, 5740, .inl (upd (upd (upd (upd (upd (upd (upd (upd (upd (upd (upd (upd (upd (upd (upd (upd (upd (upd (upd (upd (upd (upd (upd (upd (upd (upd (upd (fun _ => 0) 3 (-1)) 4 1000) 6 (-1)) 110 (-1)) 111 (-1)) 112 (-1)) 113 (-1)) 114 (-1)) 115 (-1)) 116 (-1)) 117 (-1)) 118 (-1)) 119 (-1)) 120 (-1)) 121 (-1)) 122 (-1)) 123 (-1)) 124 (-1)) 125 (-1)) 126 (-1)) 127 (-1)) 128 (-1)) 129 (-1)) 130 (-1)) 131 (-1)) 132 (-1)) 133 (-1))))] H := hP
                                                    have hD : va_D A [(a0, .inr (12, [.int 0, .int 0, .ref a1, .ref a2, .ref a3, .ref a4, .int 0, .ref a5, .int 0, .int 0, .int 0, .int 0, .long 0, .int (-1), .int 0, .int 0, .ref a6, .int 0, .ref a7, .ref a8, .int 0, .ref a9, .ref a10, .int 0, .int 0, .ref a11, .ref a12, .int 0, .ref a13, .ref a14, .int 0, .long 0, .long 0, .int 0, .int 0, .int 0, .int 0, .int 0, .ref a15, .int 0, .int 0, .ref a16, .int 0, .ref a17, .ref a18, .ref a19, .int 0, .ref a20, .ref a21, .long 0, .ref a22, .int 0])), (a2, .inl (G.2 0, 5740, .inl (upd (upd (upd (upd (upd (upd (upd (upd (upd (upd (upd (upd (upd (upd (upd (upd (upd (upd (upd (upd (upd (upd (upd (upd (upd (upd (upd (fun _ => 0) 3 (-1)) 4 1000) 6 (-1)) 110 (-1)) 111 (-1)) 112 (-1)) 113 (-1)) 114 (-1)) 115 (-1)) 116 (-1)) 117 (-1)) 118 (-1)) 119 (-1)) 120 (-1)) 121 (-1)) 122 (-1)) 123 (-1)) 124 (-1)) 125 (-1)) 126 (-1)) 127 (-1)) 128 (-1)) 129 (-1)) 130 (-1)) 131 (-1)) 132 (-1)) 133 (-1))))] := hD
                                                    refine lv_iinc (v := 24) (lv' := [(2, .int 24), (1, .int 0), (0, .ref a0)]) hx hb dX12_body_47 hl (k := 0) rfl (by decide) (by decide) rfl (fun ls hl => ?_)
                                                    refine lv_goto (tgt := 26) hx hb dX12_body_50 (by decide) ?_
                                                    refine lv_iload_n hx hb dX12_body_26 rfl (lv_at hl 0 rfl) ?_
                                                    refine lv_bipush (v := 24) hx hb dX12_body_27 (by decide) ?_
                                                    refine lv_icmp_ge (tgt := 53) hx hb dX12_body_29 (by decide) (fun c_26 => ?_) (fun c_26 => ?_)
                                                    ·
                                                      refine lv_aload_n hx hb dX12_body_53 rfl (lv_at hl 2 rfl) ?_
                                                      refine va_get (D := G.1) (ci := 12) (v := .ref a2) (C := RX12) (T := TX12) (N := 52) hx hb hts inG_X12 hown hK hP 0 rfl rfl 3 (by decide) (hts _ fl_X12_13) (fun _ h9 => h9) rfl dX12_body_54 ?_
                                                      refine lv_iconst (v := 1) hx hb dX12_body_57 (by decide) ?_
                                                      refine lv_dup2_11 hx hb dX12_body_58 rfl rfl ?_
                                                      refine va_iald hx hb hK hP 1 0 rfl rfl (i := 1) (by unfold vp_in; decide) dX12_body_59 ?_
                                                      refine g5_ti (v := 0) rfl ?_
                                                      refine lv_iconst (v := 1) hx hb dX12_body_60 (by decide) ?_
                                                      refine lv_iadd hx hb dX12_body_61 ?_
                                                      refine g5_ti (v := 1) (by decide) ?_
                                                      refine va_iast hx hb hK hP hD hS 1 0 rfl rfl (i := 1) (x := 1) (by unfold vp_in; decide) dX12_body_62 (fun H locs hP hD hS => ?_)
                                                      have hP : va_P G.1 vwCl [(a0, .inr (12, [.int 0, .int 0, .ref a1, .ref a2, .ref a3, .ref a4, .int 0, .ref a5, .int 0, .int 0, .int 0, .int 0, .long 0, .int (-1), .int 0, .int 0, .ref a6, .int 0, .ref a7, .ref a8, .int 0, .ref a9, .ref a10, .int 0, .int 0, .ref a11, .ref a12, .int 0, .ref a13, .ref a14, .int 0, .long 0, .long 0, .int 0, .int 0, .int 0, .int 0, .int 0, .ref a15, .int 0, .int 0, .ref a16, .int 0, .ref a17, .ref a18, .ref a19, .int 0, .ref a20, .ref a21, .long 0, .ref a22, .int 0])), (a2, .inl (G.2 0, 5740, .inl (upd (upd (upd (upd (upd (upd (upd (upd (upd (upd (upd (upd (upd (upd (upd (upd (upd (upd (upd (upd (upd (upd (upd (upd (upd (upd (upd (upd (fun _ => 0) 3 (-1)) 4 1000) 6 (-1)) 110 (-1)) 111 (-1)) 112 (-1)) 113 (-1)) 114 (-1)) 115 (-1)) 116 (-1)) 117 (-1)) 118 (-1)) 119 (-1)) 120 (-1)) 121 (-1)) 122 (-1)) 123 (-1)) 124 (-1)) 125 (-1)) 126 (-1)) 127 (-1)) 128 (-1)) 129 (-1)) 130 (-1)) 131 (-1)) 132 (-1)) 133 (-1)) 1 1)))] H := hP
                                                      have hD : va_D A [(a0, .inr (12, [.int 0, .int 0, .ref a1, .ref a2, .ref a3, .ref a4, .int 0, .ref a5, .int 0, .int 0, .int 0, .int 0, .long 0, .int (-1), .int 0, .int 0, .ref a6, .int 0, .ref a7, .ref a8, .int 0, .ref a9, .ref a10, .int 0, .int 0, .ref a11, .ref a12, .int 0, .ref a13, .ref a14, .int 0, .long 0, .long 0, .int 0, .int 0, .int 0, .int 0, .int 0, .ref a15, .int 0, .int 0, .ref a16, .int 0, .ref a17, .ref a18, .ref a19, .int 0, .ref a20, .ref a21, .long 0, .ref a22, .int 0])), (a2, .inl (G.2 0, 5740, .inl (upd (upd (upd (upd (upd (upd (upd (upd (upd (upd (upd (upd (upd (upd (upd (upd (upd (upd (upd (upd (upd (upd (upd (upd (upd (upd (upd (upd (fun _ => 0) 3 (-1)) 4 1000) 6 (-1)) 110 (-1)) 111 (-1)) 112 (-1)) 113 (-1)) 114 (-1)) 115 (-1)) 116 (-1)) 117 (-1)) 118 (-1)) 119 (-1)) 120 (-1)) 121 (-1)) 122 (-1)) 123 (-1)) 124 (-1)) 125 (-1)) 126 (-1)) 127 (-1)) 128 (-1)) 129 (-1)) 130 (-1)) 131 (-1)) 132 (-1)) 133 (-1)) 1 1)))] := hD
                                                      refine lv_aload_n hx hb dX12_body_63 rfl (lv_at hl 2 rfl) ?_
                                                      refine lv_iload_n hx hb dX12_body_64 rfl (lv_at hl 1 rfl) ?_
                                                      have hPc := hP.sub (ws' := [(a0, .inr (12, [.int 0, .int 0, .ref a1, .ref a2, .ref a3, .ref a4, .int 0, .ref a5, .int 0, .int 0, .int 0, .int 0, .long 0, .int (-1), .int 0, .int 0, .ref a6, .int 0, .ref a7, .ref a8, .int 0, .ref a9, .ref a10, .int 0, .int 0, .ref a11, .ref a12, .int 0, .ref a13, .ref a14, .int 0, .long 0, .long 0, .int 0, .int 0, .int 0, .int 0, .int 0, .ref a15, .int 0, .int 0, .ref a16, .int 0, .ref a17, .ref a18, .ref a19, .int 0, .ref a20, .ref a21, .long 0, .ref a22, .int 0]))]) [0] rfl
                                                      have hDc := hD.sub (ws' := [(a0, .inr (12, [.int 0, .int 0, .ref a1, .ref a2, .ref a3, .ref a4, .int 0, .ref a5, .int 0, .int 0, .int 0, .int 0, .long 0, .int (-1), .int 0, .int 0, .ref a6, .int 0, .ref a7, .ref a8, .int 0, .ref a9, .ref a10, .int 0, .int 0, .ref a11, .ref a12, .int 0, .ref a13, .ref a14, .int 0, .long 0, .long 0, .int 0, .int 0, .int 0, .int 0, .int 0, .ref a15, .int 0, .int 0, .ref a16, .int 0, .ref a17, .ref a18, .ref a19, .int 0, .ref a20, .ref a21, .long 0, .ref a22, .int 0]))]) [0] (by decide) rfl
                                                      have hFc := va_free (wc := [(a0, .inr (12, [.int 0, .int 0, .ref a1, .ref a2, .ref a3, .ref a4, .int 0, .ref a5, .int 0, .int 0, .int 0, .int 0, .long 0, .int (-1), .int 0, .int 0, .ref a6, .int 0, .ref a7, .ref a8, .int 0, .ref a9, .ref a10, .int 0, .int 0, .ref a11, .ref a12, .int 0, .ref a13, .ref a14, .int 0, .long 0, .long 0, .int 0, .int 0, .int 0, .int 0, .int 0, .ref a15, .int 0, .int 0, .ref a16, .int 0, .ref a17, .ref a18, .ref a19, .int 0, .ref a20, .ref a21, .long 0, .ref a22, .int 0]))]) hD hS hA [0] rfl
                                                      refine va_calli (va_runV (As := [.int 0]) (rest := []) ⟨hx, hb, hml, hown, hts⟩ (kX12_tell_2 l G a0 a1 a2 a3 a4 a5 a6 a7 a8 a9 a10 a11 a12 a13 a14 a15 a16 a17 a18 a19 a20 a21 a22 H.size) (cwV 1 hts gV_X12_125 rfl rfl rfl hv_X12_tell ⟨Nat.le_of_ble_eq_true rfl, Nat.le_of_ble_eq_true rfl⟩) (g5_preV hPc hK hDc hN hT hS hFc (ci := 12) (q0 := 0) rfl rfl) rfl rfl hl.1 rfl (lv_room (Nat.le_of_ble_eq_true rfl)) dX12_body_65 ⟨Nat.le_of_ble_eq_true rfl, Nat.le_of_ble_eq_true rfl⟩) hS (fun q _ h => hFc q h) hFc (fun r u t H1 locs ht hvm hw hB hz1 hk1 hS => ?_)
                                                      obtain ⟨hP1, hD1⟩ := hB
                                                      rw [ht] at hP1
                                                      obtain ⟨rfl, rfl⟩ := hw
                                                      obtain ⟨hP, hD⟩ := va_join (wr := [(a2, .inl (G.2 0, 5740, .inl (upd (upd (upd (upd (upd (upd (upd (upd (upd (upd (upd (upd (upd (upd (upd (upd (upd (upd (upd (upd (upd (upd (upd (upd (upd (upd (upd (upd (fun _ => 0) 3 (-1)) 4 1000) 6 (-1)) 110 (-1)) 111 (-1)) 112 (-1)) 113 (-1)) 114 (-1)) 115 (-1)) 116 (-1)) 117 (-1)) 118 (-1)) 119 (-1)) 120 (-1)) 121 (-1)) 122 (-1)) 123 (-1)) 124 (-1)) 125 (-1)) 126 (-1)) 127 (-1)) 128 (-1)) 129 (-1)) 130 (-1)) 131 (-1)) 132 (-1)) 133 (-1)) 1 1)))]) (w1 := [(a0, .inr (12, [.int 0, .int 0, .ref a1, .ref a2, .ref a3, .ref a4, .int 0, .ref a5, .int 0, .int 0, .int 0, .int 0, .long 0, .int (-1), .int 0, .int 0, .ref a6, .int 0, .ref a7, .ref a8, .int 0, .ref a9, .ref a10, .int 0, .int 0, .ref a11, .ref a12, .int 0, .ref a13, .ref a14, .int 0, .long 0, .long 0, .int 0, .int 0, .int 0, .int 0, .int 0, .ref a15, .int 0, .int 0, .ref a16, .int 0, .ref a17, .ref a18, .ref a19, .int 0, .ref a20, .ref a21, .long 0, .ref a22, .int 0]))]) hP hD [0] [1] rfl rfl (by decide) (by decide) hk1 hFc hP1 hD1
                                                      generalize H1 = H at hP hS ⊢
                                                      have hP : va_P G.1 vwCl [(a2, .inl (G.2 0, 5740, .inl (upd (upd (upd (upd (upd (upd (upd (upd (upd (upd (upd (upd (upd (upd (upd (upd (upd (upd (upd (upd (upd (upd (upd (upd (upd (upd (upd (upd (fun _ => 0) 3 (-1)) 4 1000) 6 (-1)) 110 (-1)) 111 (-1)) 112 (-1)) 113 (-1)) 114 (-1)) 115 (-1)) 116 (-1)) 117 (-1)) 118 (-1)) 119 (-1)) 120 (-1)) 121 (-1)) 122 (-1)) 123 (-1)) 124 (-1)) 125 (-1)) 126 (-1)) 127 (-1)) 128 (-1)) 129 (-1)) 130 (-1)) 131 (-1)) 132 (-1)) 133 (-1)) 1 1))), (a0, .inr (12, [.int 0, .int 0, .ref a1, .ref a2, .ref a3, .ref a4, .int 0, .ref a5, .int 0, .int 0, .int 0, .int 0, .long 0, .int (-1), .int 0, .int 0, .ref a6, .int 0, .ref a7, .ref a8, .int 0, .ref a9, .ref a10, .int 0, .int 0, .ref a11, .ref a12, .int 0, .ref a13, .ref a14, .int 0, .long 0, .long 0, .int 0, .int 0, .int 0, .int 0, .int 0, .ref a15, .int 0, .int 0, .ref a16, .int 0, .ref a17, .ref a18, .ref a19, .int 0, .ref a20, .ref a21, .long 0, .ref a22, .int 0]))] H := hP
                                                      have hD : va_D A [(a2, .inl (G.2 0, 5740, .inl (upd (upd (upd (upd (upd (upd (upd (upd (upd (upd (upd (upd (upd (upd (upd (upd (upd (upd (upd (upd (upd (upd (upd (upd (upd (upd (upd (upd (fun _ => 0) 3 (-1)) 4 1000) 6 (-1)) 110 (-1)) 111 (-1)) 112 (-1)) 113 (-1)) 114 (-1)) 115 (-1)) 116 (-1)) 117 (-1)) 118 (-1)) 119 (-1)) 120 (-1)) 121 (-1)) 122 (-1)) 123 (-1)) 124 (-1)) 125 (-1)) 126 (-1)) 127 (-1)) 128 (-1)) 129 (-1)) 130 (-1)) 131 (-1)) 132 (-1)) 133 (-1)) 1 1))), (a0, .inr (12, [.int 0, .int 0, .ref a1, .ref a2, .ref a3, .ref a4, .int 0, .ref a5, .int 0, .int 0, .int 0, .int 0, .long 0, .int (-1), .int 0, .int 0, .ref a6, .int 0, .ref a7, .ref a8, .int 0, .ref a9, .ref a10, .int 0, .int 0, .ref a11, .ref a12, .int 0, .ref a13, .ref a14, .int 0, .long 0, .long 0, .int 0, .int 0, .int 0, .int 0, .int 0, .ref a15, .int 0, .int 0, .ref a16, .int 0, .ref a17, .ref a18, .ref a19, .int 0, .ref a20, .ref a21, .long 0, .ref a22, .int 0]))] := hD
                                                      have hP := hP.sub (ws' := []) [] rfl
                                                      have hD := hD.sub (ws' := []) [] (by decide) rfl
                                                      exact W.iret (v := 0) hx hb hr (fun t ht hW => ⟨⟨0, [], rfl, ⟨rfl, rfl⟩, by rw [ht]; exact hP, hD⟩, hS.F ht⟩) hS.2.2 dX12_body_68
                                                    ·
                                                      exact absurd c_26 (by decide)
  ·
    exact absurd c_1 (by decide)
theorem dX12_isHour_0 : decode cX12_isHour 0 = .ok (.iload_n 0, 1) := by decide +kernel
theorem dX12_isHour_1 : decode cX12_isHour 1 = .ok (.i2l, 1) := by decide +kernel
theorem dX12_isHour_2 : decode cX12_isHour 2 = .ok (.lconst 0, 1) := by decide +kernel
theorem dX12_isHour_3 : decode cX12_isHour 3 = .ok (.ldc2_w 130, 3) := by decide +kernel
theorem dX12_isHour_6 : decode cX12_isHour 6 = .ok (.invokestatic 121, 3) := by decide +kernel
theorem dX12_isHour_9 : decode cX12_isHour 9 = .ok (.ireturn, 1) := by decide +kernel
set_option maxHeartbeats 4000000 in
set_option maxRecDepth 100000 in
theorem kX12_isHour (l : Launch) (G : g5_G) (sz : Nat) (n0 : Int32) : Met l yX12_isHour (wsG yX12_isHour cX12_isHour 1 (some .boolean)) ({ frames := 1, cells := 0, slots := 0, locals := 25 }) (va_Pc [.int n0] (g5_P G [] sz)) (va_Qi (fun (r : Int32) (u : va_W) => ((n0.toInt < 0 ∨ 23 < n0.toInt) ∧ (r = 0) ∧ (u = [])) ∨ ((0 ≤ n0.toInt ∧ n0.toInt ≤ 23) ∧ (r = 1) ∧ (u = []))) (g5_B G (va_A [] sz)) (va_A [] sz)) 0 0 (va_A [] sz) := by
  refine Met.ofW (cc := cX12_isHour) (maxL := 1) (ret := (some .boolean)) (by decide) rfl ?_
  intro p e s m args below meth c s₁ B hml hv
  obtain ⟨rfl, hsz, hP, hK, hD0, hN, hT⟩ := hv
  have hx := B.exec
  have hb := B.bytes
  have hr := B.returns
  have hts : ∀ w ∈ tblG, w.before _ s = true := fun w h => atoms_spec (ws := (wsG yX12_isHour cX12_isHour 1 (some .boolean))) B.pre w (List.mem_cons_of_mem _ h)
  have hown : s.vm.findClass RX12 = some m.cls := findClass_of_methodNamed B.named
  have hlocks := B.notSynchronized
  subst hsz
  have hD := hD0.self (sz := s.heap.size)
  generalize hAe : va_A [] s.heap.size = A at hD hT ⊢
  have hA : ∀ q : Nat, s.heap.size ≤ q → A q := fun q h => by rw [← hAe]; exact Or.inr h
  have hS : va_S A s.heap s.heap [] := va_S.rf
  have hP : va_P G.1 vwCl [] s.heap := hP
  have hl := lv_entry ([.int n0]) (n := 1) (Nat.le_of_ble_eq_true rfl)
  rw [lg_entry_eq]
  generalize (lg_sl ([.int n0]) ++ List.replicate (1 - (lg_sl ([.int n0])).length) Slot.unset).toArray = ls at hl ⊢
  have hl : lv_has ls 1 [(0, .int n0)] := hl
  refine lv_iload_n hx hb dX12_isHour_0 rfl (lv_at hl 0 rfl) ?_
  refine lv_i2l (v := n0.toInt64) hx hb dX12_isHour_1 rfl ?_
  refine lv_lconst (v := 0) hx hb dX12_isHour_2 (by decide) ?_
  refine lv_ldc2 (v := 23) hx hb hown (hts _ kl_X12_130) dX12_isHour_3 ?_
  have hPc := hP.sub (ws' := []) [] rfl
  have hDc := hD.sub (ws' := []) [] (by decide) rfl
  have hFc := va_free (wc := []) hD hS hA [] rfl
  refine va_calli (va_runS (As := [.long n0.toInt64, .long 0, .long 23]) (rest := []) ⟨hx, hb, hml, hown, hts⟩ (k_in_0_23 l G s.heap.size n0) (va_cwS 3 hts gS_X12_121 rfl rfl rfl hs_X12_in ⟨Nat.le_of_ble_eq_true rfl, Nat.le_of_ble_eq_true rfl⟩) (g5_preS hPc hK hDc hN hT hS hFc) rfl rfl hl.1 rfl (lv_room (Nat.le_of_ble_eq_true rfl)) dX12_isHour_6 ⟨Nat.le_of_ble_eq_true rfl, Nat.le_of_ble_eq_true rfl⟩) hS (fun q _ h => hFc q h) hFc (fun r u t H1 locs ht hvm hw hB hz1 hk1 hS => ?_)
  obtain ⟨hP1, hD1⟩ := hB
  rw [ht] at hP1
  rcases hw with ⟨i_1, rfl, rfl⟩ | ⟨i_2, rfl, rfl⟩
  ·
    have i_1 : n0.toInt < 0 ∨ 23 < n0.toInt := i_1
    have hP := g5_same hP hk1
    generalize H1 = H at hP hS ⊢
    exact W.zret (v := 0) hx hb hr rfl (fun t ht hW => ⟨⟨0, [], rfl, Or.inl (⟨i_1, rfl, rfl⟩), by rw [ht]; exact hP, hD⟩, hS.F ht⟩) hS.2.2 dX12_isHour_9
  ·
    have i_2 : 0 ≤ n0.toInt ∧ n0.toInt ≤ 23 := i_2
    have hP := g5_same hP hk1
    generalize H1 = H at hP hS ⊢
    exact W.zret (v := 1) hx hb hr rfl (fun t ht hW => ⟨⟨1, [], rfl, Or.inr (⟨i_2, rfl, rfl⟩), by rw [ht]; exact hP, hD⟩, hS.F ht⟩) hS.2.2 dX12_isHour_9
theorem ml_X12_175 : Cond.methodLink RX12 175 yX12_isHour ∈ tblG := tg 1447 (by decide +kernel) (by decide +kernel)
theorem st_X12_isHour : Cond.static yX12_isHour ∈ tblG := tg 1448 (by decide +kernel) (by decide +kernel)
theorem cd_X12_isHour : Cond.code yX12_isHour cX12_isHour 1 (some .boolean) ∈ tblG := tg 1449 (by decide +kernel) (by decide +kernel)
theorem gW_X12_isHour : GoodIn tblG (wsG yX12_isHour cX12_isHour 1 (some .boolean)) := tgi cd_X12_isHour
theorem gS_X12_175 : GoodIn tblG (va_wsS RX12 175 yX12_isHour (wsG yX12_isHour cX12_isHour 1 (some .boolean))) := tgS ml_X12_175 st_X12_isHour ini_X12 gW_X12_isHour
theorem hs_X12_isHour : yX12_isHour.cls ≠ "java/lang/invoke/MethodHandle" ∧ yX12_isHour.cls ≠ "java/lang/invoke/VarHandle" ∧ (parseMethodDescriptor yX12_isHour.desc).map (fun d => d.parameters.length) = some 1 := by decide +kernel
theorem kl_X12_178 : Cond.constantLong RX12 178 (-1) ∈ tblG := tg 1450 (by decide +kernel) (by decide +kernel)
set_option maxHeartbeats 4000000 in
set_option maxRecDepth 100000 in
theorem k_in_m1_63 (l : Launch) (G : g5_G) (sz : Nat) (p_x : Int32) : Met l yX12_in (wsG yX12_in cX12_in 6 (some .boolean)) ({ frames := 0, cells := 0, slots := 0, locals := 0 }) (va_Pc [.long p_x.toInt64, .long (-1), .long 63] (g5_P G [] sz)) (va_Qi (fun (r : Int32) (u : va_W) => ((p_x.toInt < (-1) ∨ 63 < p_x.toInt) ∧ (r = 0) ∧ (u = [])) ∨ (((-1) ≤ p_x.toInt ∧ p_x.toInt ≤ 63) ∧ (r = 1) ∧ (u = []))) (g5_B G (va_A [] sz)) (va_A [] sz)) 0 0 (va_A [] sz) := by
  refine Met.ofW (cc := cX12_in) (maxL := 6) (ret := (some .boolean)) (by decide) rfl ?_
  intro p e s m args below meth c s₁ B hml hv
  obtain ⟨rfl, hsz, hP, hK, hD0, hN, hT⟩ := hv
  have hx := B.exec
  have hb := B.bytes
  have hr := B.returns
  have hts : ∀ w ∈ tblG, w.before _ s = true := fun w h => atoms_spec (ws := (wsG yX12_in cX12_in 6 (some .boolean))) B.pre w (List.mem_cons_of_mem _ h)
  have hown : s.vm.findClass RX12 = some m.cls := findClass_of_methodNamed B.named
  have hlocks := B.notSynchronized
  subst hsz
  have hD := hD0.self (sz := s.heap.size)
  generalize hAe : va_A [] s.heap.size = A at hD hT ⊢
  have hA : ∀ q : Nat, s.heap.size ≤ q → A q := fun q h => by rw [← hAe]; exact Or.inr h
  have hS : va_S A s.heap s.heap [] := va_S.rf
  have hP : va_P G.1 vwCl [] s.heap := hP
  have hl := lv_entry ([.long p_x.toInt64, .long (-1), .long 63]) (n := 6) (Nat.le_of_ble_eq_true rfl)
  rw [lg_entry_eq]
  generalize (lg_sl ([.long p_x.toInt64, .long (-1), .long 63]) ++ List.replicate (6 - (lg_sl ([.long p_x.toInt64, .long (-1), .long 63])).length) Slot.unset).toArray = ls at hl ⊢
  have hl : lv_has ls 6 [(0, .long p_x.toInt64), (2, .long (-1)), (4, .long 63)] := hl
  refine lv_lload_n hx hb dX12_in_0 rfl (lv_at hl 0 rfl) ?_
  refine lv_lload_n hx hb dX12_in_1 rfl (lv_at hl 1 rfl) ?_
  have tl_1 : p_x.toInt64.toInt = p_x.toInt := Int32.toInt_toInt64 _
  have tl_2 : ((-1) : Int64).toInt = (-1) := by decide
  have tc_3 := g5_cmpI p_x.toInt64 (-1)
  refine W.lcmp hx hb dX12_in_2 ?_
  refine lv_if_lt (tgt := 17) hx hb dX12_in_3 (by decide) (fun c_4 => ?_) (fun c_4 => ?_)
  ·
    have i_4 : (lg_cmp p_x.toInt64 (-1)).toInt < 0 := by have z := g5_lt (a := (lg_cmp p_x.toInt64 (-1)).toInt) (b := 0) (by rfl) (by decide) c_4; omega
    refine lv_iconst (v := 0) hx hb dX12_in_17 (by decide) ?_
    exact W.zret (v := 0) hx hb hr rfl (fun t ht hW => ⟨⟨0, [], rfl, Or.inl (⟨by omega, rfl, rfl⟩), by rw [ht]; exact hP.sub [] rfl, hD.sub [] (by decide) rfl⟩, hS.F ht⟩) hS.2.2 dX12_in_18
  ·
    have i_4 : (lg_cmp p_x.toInt64 (-1)).toInt ≥ 0 := by have z := g5_ltN (a := (lg_cmp p_x.toInt64 (-1)).toInt) (b := 0) (by rfl) (by decide) c_4; omega
    refine lv_lload_n hx hb dX12_in_6 rfl (lv_at hl 0 rfl) ?_
    refine lv_lload hx hb dX12_in_7 (lv_at hl 2 rfl) ?_
    have tl_5 : p_x.toInt64.toInt = p_x.toInt := Int32.toInt_toInt64 _
    have tl_6 : (63 : Int64).toInt = 63 := by decide
    have tc_7 := g5_cmpI p_x.toInt64 63
    refine W.lcmp hx hb dX12_in_9 ?_
    refine lv_if_gt (tgt := 17) hx hb dX12_in_10 (by decide) (fun c_8 => ?_) (fun c_8 => ?_)
    ·
      have i_8 : (lg_cmp p_x.toInt64 63).toInt > 0 := by have z := g5_gt (a := (lg_cmp p_x.toInt64 63).toInt) (b := 0) (by rfl) (by decide) c_8; omega
      refine lv_iconst (v := 0) hx hb dX12_in_17 (by decide) ?_
      exact W.zret (v := 0) hx hb hr rfl (fun t ht hW => ⟨⟨0, [], rfl, Or.inl (⟨by omega, rfl, rfl⟩), by rw [ht]; exact hP.sub [] rfl, hD.sub [] (by decide) rfl⟩, hS.F ht⟩) hS.2.2 dX12_in_18
    ·
      have i_8 : (lg_cmp p_x.toInt64 63).toInt ≤ 0 := by have z := g5_gtN (a := (lg_cmp p_x.toInt64 63).toInt) (b := 0) (by rfl) (by decide) c_8; omega
      refine lv_iconst (v := 1) hx hb dX12_in_13 (by decide) ?_
      refine lv_goto (tgt := 18) hx hb dX12_in_14 (by decide) ?_
      exact W.zret (v := 1) hx hb hr rfl (fun t ht hW => ⟨⟨1, [], rfl, Or.inr (⟨by omega, rfl, rfl⟩), by rw [ht]; exact hP.sub [] rfl, hD.sub [] (by decide) rfl⟩, hS.F ht⟩) hS.2.2 dX12_in_18
theorem dX12_isBody_0 : decode cX12_isBody 0 = .ok (.iload_n 1, 1) := by decide +kernel
theorem dX12_isBody_1 : decode cX12_isBody 1 = .ok (.i2l, 1) := by decide +kernel
theorem dX12_isBody_2 : decode cX12_isBody 2 = .ok (.lconst 0, 1) := by decide +kernel
theorem dX12_isBody_3 : decode cX12_isBody 3 = .ok (.aload_n 0, 1) := by decide +kernel
theorem dX12_isBody_4 : decode cX12_isBody 4 = .ok (.getfield 13, 3) := by decide +kernel
theorem dX12_isBody_7 : decode cX12_isBody 7 = .ok (.iconst 1, 1) := by decide +kernel
theorem dX12_isBody_8 : decode cX12_isBody 8 = .ok (.iaload, 1) := by decide +kernel
theorem dX12_isBody_9 : decode cX12_isBody 9 = .ok (.i2l, 1) := by decide +kernel
theorem dX12_isBody_10 : decode cX12_isBody 10 = .ok (.lconst 1, 1) := by decide +kernel
theorem dX12_isBody_11 : decode cX12_isBody 11 = .ok (.lsub, 1) := by decide +kernel
theorem dX12_isBody_12 : decode cX12_isBody 12 = .ok (.invokestatic 121, 3) := by decide +kernel
theorem dX12_isBody_15 : decode cX12_isBody 15 = .ok (.ireturn, 1) := by decide +kernel
set_option maxHeartbeats 4000000 in
set_option maxRecDepth 100000 in
theorem kX12_isBody (l : Launch) (G : g5_G) (a0 a1 a2 a3 a4 a5 a6 a7 a8 a9 a10 a11 a12 a13 a14 a15 a16 a17 a18 a19 a20 a21 a22 : Nat) (sz : Nat) (n0 : Int32) : Met l yX12_isBody (wsG yX12_isBody cX12_isBody 2 (some .boolean)) ({ frames := 1, cells := 0, slots := 0, locals := 25 }) (va_Pc [.ref a0, .int n0] (g5_P G [(a0, .inr (12, [.int 0, .int 0, .ref a1, .ref a2, .ref a3, .ref a4, .int 0, .ref a5, .int 0, .int 0, .int 0, .int 0, .long 0, .int (-1), .int 0, .int 0, .ref a6, .int 0, .ref a7, .ref a8, .int 0, .ref a9, .ref a10, .int 0, .int 0, .ref a11, .ref a12, .int 0, .ref a13, .ref a14, .int 0, .long 0, .long 0, .int 0, .int 0, .int 0, .int 0, .int 0, .ref a15, .int 0, .int 0, .ref a16, .int 0, .ref a17, .ref a18, .ref a19, .int 0, .ref a20, .ref a21, .long 0, .ref a22, .int 0])), (a2, .inl (G.2 0, 5740, .inl (upd (upd (upd (fun _ => 0) 3 (-1)) 4 1000) 6 (-1))))] sz)) (va_Qi (fun (r : Int32) (u : va_W) => ((n0.toInt < 0 ∨ (-1) < n0.toInt) ∧ (r = 0) ∧ (u = [(a0, .inr (12, [.int 0, .int 0, .ref a1, .ref a2, .ref a3, .ref a4, .int 0, .ref a5, .int 0, .int 0, .int 0, .int 0, .long 0, .int (-1), .int 0, .int 0, .ref a6, .int 0, .ref a7, .ref a8, .int 0, .ref a9, .ref a10, .int 0, .int 0, .ref a11, .ref a12, .int 0, .ref a13, .ref a14, .int 0, .long 0, .long 0, .int 0, .int 0, .int 0, .int 0, .int 0, .ref a15, .int 0, .int 0, .ref a16, .int 0, .ref a17, .ref a18, .ref a19, .int 0, .ref a20, .ref a21, .long 0, .ref a22, .int 0])), (a2, .inl (G.2 0, 5740, .inl (upd (upd (upd (fun _ => 0) 3 (-1)) 4 1000) 6 (-1))))]))) (g5_B G (va_A [(a0, .inr (12, [.int 0, .int 0, .ref a1, .ref a2, .ref a3, .ref a4, .int 0, .ref a5, .int 0, .int 0, .int 0, .int 0, .long 0, .int (-1), .int 0, .int 0, .ref a6, .int 0, .ref a7, .ref a8, .int 0, .ref a9, .ref a10, .int 0, .int 0, .ref a11, .ref a12, .int 0, .ref a13, .ref a14, .int 0, .long 0, .long 0, .int 0, .int 0, .int 0, .int 0, .int 0, .ref a15, .int 0, .int 0, .ref a16, .int 0, .ref a17, .ref a18, .ref a19, .int 0, .ref a20, .ref a21, .long 0, .ref a22, .int 0])), (a2, .inl (G.2 0, 5740, .inl (upd (upd (upd (fun _ => 0) 3 (-1)) 4 1000) 6 (-1))))] sz)) (va_A [(a0, .inr (12, [.int 0, .int 0, .ref a1, .ref a2, .ref a3, .ref a4, .int 0, .ref a5, .int 0, .int 0, .int 0, .int 0, .long 0, .int (-1), .int 0, .int 0, .ref a6, .int 0, .ref a7, .ref a8, .int 0, .ref a9, .ref a10, .int 0, .int 0, .ref a11, .ref a12, .int 0, .ref a13, .ref a14, .int 0, .long 0, .long 0, .int 0, .int 0, .int 0, .int 0, .int 0, .ref a15, .int 0, .int 0, .ref a16, .int 0, .ref a17, .ref a18, .ref a19, .int 0, .ref a20, .ref a21, .long 0, .ref a22, .int 0])), (a2, .inl (G.2 0, 5740, .inl (upd (upd (upd (fun _ => 0) 3 (-1)) 4 1000) 6 (-1))))] sz)) 0 0 (va_A [(a0, .inr (12, [.int 0, .int 0, .ref a1, .ref a2, .ref a3, .ref a4, .int 0, .ref a5, .int 0, .int 0, .int 0, .int 0, .long 0, .int (-1), .int 0, .int 0, .ref a6, .int 0, .ref a7, .ref a8, .int 0, .ref a9, .ref a10, .int 0, .int 0, .ref a11, .ref a12, .int 0, .ref a13, .ref a14, .int 0, .long 0, .long 0, .int 0, .int 0, .int 0, .int 0, .int 0, .ref a15, .int 0, .int 0, .ref a16, .int 0, .ref a17, .ref a18, .ref a19, .int 0, .ref a20, .ref a21, .long 0, .ref a22, .int 0])), (a2, .inl (G.2 0, 5740, .inl (upd (upd (upd (fun _ => 0) 3 (-1)) 4 1000) 6 (-1))))] sz) := by
  refine Met.ofW (cc := cX12_isBody) (maxL := 2) (ret := (some .boolean)) (by decide) rfl ?_
  intro p e s m args below meth c s₁ B hml hv
  obtain ⟨rfl, hsz, hP, hK, hD0, hN, hT⟩ := hv
  have hx := B.exec
  have hb := B.bytes
  have hr := B.returns
  have hts : ∀ w ∈ tblG, w.before _ s = true := fun w h => atoms_spec (ws := (wsG yX12_isBody cX12_isBody 2 (some .boolean))) B.pre w (List.mem_cons_of_mem _ h)
  have hown : s.vm.findClass RX12 = some m.cls := findClass_of_methodNamed B.named
  have hlocks := B.notSynchronized
  subst hsz
  have hD := hD0.self (sz := s.heap.size)
  generalize hAe : va_A [(a0, .inr (12, [.int 0, .int 0, .ref a1, .ref a2, .ref a3, .ref a4, .int 0, .ref a5, .int 0, .int 0, .int 0, .int 0, .long 0, .int (-1), .int 0, .int 0, .ref a6, .int 0, .ref a7, .ref a8, .int 0, .ref a9, .ref a10, .int 0, .int 0, .ref a11, .ref a12, .int 0, .ref a13, .ref a14, .int 0, .long 0, .long 0, .int 0, .int 0, .int 0, .int 0, .int 0, .ref a15, .int 0, .int 0, .ref a16, .int 0, .ref a17, .ref a18, .ref a19, .int 0, .ref a20, .ref a21, .long 0, .ref a22, .int 0])), (a2, .inl (G.2 0, 5740, .inl (upd (upd (upd (fun _ => 0) 3 (-1)) 4 1000) 6 (-1))))] s.heap.size = A at hD hT ⊢
  have hA : ∀ q : Nat, s.heap.size ≤ q → A q := fun q h => by rw [← hAe]; exact Or.inr h
  have hS : va_S A s.heap s.heap [] := va_S.rf
  have hP : va_P G.1 vwCl [(a0, .inr (12, [.int 0, .int 0, .ref a1, .ref a2, .ref a3, .ref a4, .int 0, .ref a5, .int 0, .int 0, .int 0, .int 0, .long 0, .int (-1), .int 0, .int 0, .ref a6, .int 0, .ref a7, .ref a8, .int 0, .ref a9, .ref a10, .int 0, .int 0, .ref a11, .ref a12, .int 0, .ref a13, .ref a14, .int 0, .long 0, .long 0, .int 0, .int 0, .int 0, .int 0, .int 0, .ref a15, .int 0, .int 0, .ref a16, .int 0, .ref a17, .ref a18, .ref a19, .int 0, .ref a20, .ref a21, .long 0, .ref a22, .int 0])), (a2, .inl (G.2 0, 5740, .inl (upd (upd (upd (fun _ => 0) 3 (-1)) 4 1000) 6 (-1))))] s.heap := hP
  have hl := lv_entry ([.ref a0, .int n0]) (n := 2) (Nat.le_of_ble_eq_true rfl)
  rw [lg_entry_eq]
  generalize (lg_sl ([.ref a0, .int n0]) ++ List.replicate (2 - (lg_sl ([.ref a0, .int n0])).length) Slot.unset).toArray = ls at hl ⊢
  have hl : lv_has ls 2 [(0, .ref a0), (1, .int n0)] := hl
  refine lv_iload_n hx hb dX12_isBody_0 rfl (lv_at hl 1 rfl) ?_
  refine lv_i2l (v := n0.toInt64) hx hb dX12_isBody_1 rfl ?_
  refine lv_lconst (v := 0) hx hb dX12_isBody_2 (by decide) ?_
  refine lv_aload_n hx hb dX12_isBody_3 rfl (lv_at hl 0 rfl) ?_
  refine va_get (D := G.1) (ci := 12) (v := .ref a2) (C := RX12) (T := TX12) (N := 52) hx hb hts inG_X12 hown hK hP 0 rfl rfl 3 (by decide) (hts _ fl_X12_13) (fun _ h9 => h9) rfl dX12_isBody_4 ?_
  refine lv_iconst (v := 1) hx hb dX12_isBody_7 (by decide) ?_
  refine va_iald hx hb hK hP 1 0 rfl rfl (i := 1) (by unfold vp_in; decide) dX12_isBody_8 ?_
  refine g5_ti (v := 0) rfl ?_
  refine lv_i2l (v := 0) hx hb dX12_isBody_9 (by decide) ?_
  refine lv_lconst (v := 1) hx hb dX12_isBody_10 (by decide) ?_
  refine lv_lsub hx hb dX12_isBody_11 ?_
  refine g5_tl (v := (-1)) (by decide) ?_
  have hPc := hP.sub (ws' := []) [] rfl
  have hDc := hD.sub (ws' := []) [] (by decide) rfl
  have hFc := va_free (wc := []) hD hS hA [] rfl
  refine va_calli (va_runS (As := [.long n0.toInt64, .long 0, .long (-1)]) (rest := []) ⟨hx, hb, hml, hown, hts⟩ (k_in_0_m1 l G s.heap.size n0) (va_cwS 3 hts gS_X12_121 rfl rfl rfl hs_X12_in ⟨Nat.le_of_ble_eq_true rfl, Nat.le_of_ble_eq_true rfl⟩) (g5_preS hPc hK hDc hN hT hS hFc) rfl rfl hl.1 rfl (lv_room (Nat.le_of_ble_eq_true rfl)) dX12_isBody_12 ⟨Nat.le_of_ble_eq_true rfl, Nat.le_of_ble_eq_true rfl⟩) hS (fun q _ h => hFc q h) hFc (fun r u t H1 locs ht hvm hw hB hz1 hk1 hS => ?_)
  obtain ⟨hP1, hD1⟩ := hB
  rw [ht] at hP1
  obtain ⟨i_1, rfl, rfl⟩ := hw
  have i_1 : n0.toInt < 0 ∨ (-1) < n0.toInt := i_1
  have hP := g5_same hP hk1
  generalize H1 = H at hP hS ⊢
  exact W.zret (v := 0) hx hb hr rfl (fun t ht hW => ⟨⟨0, [(a0, .inr (12, [.int 0, .int 0, .ref a1, .ref a2, .ref a3, .ref a4, .int 0, .ref a5, .int 0, .int 0, .int 0, .int 0, .long 0, .int (-1), .int 0, .int 0, .ref a6, .int 0, .ref a7, .ref a8, .int 0, .ref a9, .ref a10, .int 0, .int 0, .ref a11, .ref a12, .int 0, .ref a13, .ref a14, .int 0, .long 0, .long 0, .int 0, .int 0, .int 0, .int 0, .int 0, .ref a15, .int 0, .int 0, .ref a16, .int 0, .ref a17, .ref a18, .ref a19, .int 0, .ref a20, .ref a21, .long 0, .ref a22, .int 0])), (a2, .inl (G.2 0, 5740, .inl (upd (upd (upd (fun _ => 0) 3 (-1)) 4 1000) 6 (-1))))], rfl, ⟨i_1, rfl, rfl⟩, by rw [ht]; exact hP, hD⟩, hS.F ht⟩) hS.2.2 dX12_isBody_15
theorem ml_X12_180 : Cond.methodLink RX12 180 yX12_isBody ∈ tblG := tg 1451 (by decide +kernel) (by decide +kernel)
theorem im_X12_isBody : Cond.instanceMethod yX12_isBody ∈ tblG := tg 1453 (by decide +kernel) (by decide +kernel)
theorem se_X12_isBody : Cond.selects RX12 yX12_isBody yX12_isBody ∈ tblG := tg 39 (by decide +kernel) (by decide +kernel)
theorem cd_X12_isBody : Cond.code yX12_isBody cX12_isBody 2 (some .boolean) ∈ tblG := tg 1454 (by decide +kernel) (by decide +kernel)
theorem gW_X12_isBody : GoodIn tblG (wsG yX12_isBody cX12_isBody 2 (some .boolean)) := tgi cd_X12_isBody
theorem gV_X12_180 : GoodIn tblG (wsV RX12 180 RX12 yX12_isBody (wsG yX12_isBody cX12_isBody 2 (some .boolean))) := tgV ml_X12_180 im_X12_isBody se_X12_isBody ini_X12 gW_X12_isBody
theorem hv_X12_isBody : yX12_isBody.cls = RX12 ∧ yX12_isBody.cls ≠ "java/lang/invoke/MethodHandle" ∧ yX12_isBody.cls ≠ "java/lang/invoke/VarHandle" ∧ (parseMethodDescriptor yX12_isBody.desc).map (fun d => d.parameters.length) = some 1 := by decide +kernel
theorem dX12_stay_0 : decode cX12_stay 0 = .ok (.aload_n 0, 1) := by decide +kernel
theorem dX12_stay_1 : decode cX12_stay 1 = .ok (.iconst 0, 1) := by decide +kernel
theorem dX12_stay_2 : decode cX12_stay 2 = .ok (.putfield 107, 3) := by decide +kernel
theorem dX12_stay_5 : decode cX12_stay 5 = .ok (.iload_n 2, 1) := by decide +kernel
theorem dX12_stay_6 : decode cX12_stay 6 = .ok (.invokestatic 175, 3) := by decide +kernel
theorem dX12_stay_9 : decode cX12_stay 9 = .ok (.ifCond .eq 30, 3) := by decide +kernel
theorem dX12_stay_12 : decode cX12_stay 12 = .ok (.iload_n 3, 1) := by decide +kernel
theorem dX12_stay_13 : decode cX12_stay 13 = .ok (.invokestatic 175, 3) := by decide +kernel
theorem dX12_stay_16 : decode cX12_stay 16 = .ok (.ifCond .eq 23, 3) := by decide +kernel
theorem dX12_stay_19 : decode cX12_stay 19 = .ok (.iload_n 3, 1) := by decide +kernel
theorem dX12_stay_20 : decode cX12_stay 20 = .ok (.iload_n 2, 1) := by decide +kernel
theorem dX12_stay_21 : decode cX12_stay 21 = .ok (.if_icmp .lt 18, 3) := by decide +kernel
theorem dX12_stay_24 : decode cX12_stay 24 = .ok (.iload 4, 2) := by decide +kernel
theorem dX12_stay_26 : decode cX12_stay 26 = .ok (.i2l, 1) := by decide +kernel
theorem dX12_stay_27 : decode cX12_stay 27 = .ok (.ldc2_w 178, 3) := by decide +kernel
theorem dX12_stay_30 : decode cX12_stay 30 = .ok (.ldc2_w 128, 3) := by decide +kernel
theorem dX12_stay_33 : decode cX12_stay 33 = .ok (.invokestatic 121, 3) := by decide +kernel
theorem dX12_stay_36 : decode cX12_stay 36 = .ok (.ifCond .ne 9, 3) := by decide +kernel
theorem dX12_stay_39 : decode cX12_stay 39 = .ok (.aload_n 0, 1) := by decide +kernel
theorem dX12_stay_40 : decode cX12_stay 40 = .ok (.iconst (-1), 1) := by decide +kernel
theorem dX12_stay_41 : decode cX12_stay 41 = .ok (.invokevirtual 125, 3) := by decide +kernel
theorem dX12_stay_44 : decode cX12_stay 44 = .ok (.ireturn, 1) := by decide +kernel
theorem dX12_stay_45 : decode cX12_stay 45 = .ok (.aload_n 0, 1) := by decide +kernel
theorem dX12_stay_46 : decode cX12_stay 46 = .ok (.iload_n 1, 1) := by decide +kernel
theorem dX12_stay_47 : decode cX12_stay 47 = .ok (.invokevirtual 180, 3) := by decide +kernel
theorem dX12_stay_50 : decode cX12_stay 50 = .ok (.ifCond .ne 10, 3) := by decide +kernel
theorem dX12_stay_53 : decode cX12_stay 53 = .ok (.aload_n 0, 1) := by decide +kernel
theorem dX12_stay_54 : decode cX12_stay 54 = .ok (.bipush (-2), 2) := by decide +kernel
theorem dX12_stay_56 : decode cX12_stay 56 = .ok (.invokevirtual 125, 3) := by decide +kernel
theorem dX12_stay_59 : decode cX12_stay 59 = .ok (.ireturn, 1) := by decide +kernel
theorem dX12_stay_60 : decode cX12_stay 60 = .ok (.iload 4, 2) := by decide +kernel
theorem dX12_stay_62 : decode cX12_stay 62 = .ok (.iconst (-1), 1) := by decide +kernel
theorem dX12_stay_63 : decode cX12_stay 63 = .ok (.if_icmp .eq 29, 3) := by decide +kernel
theorem dX12_stay_66 : decode cX12_stay 66 = .ok (.aload_n 0, 1) := by decide +kernel
theorem dX12_stay_67 : decode cX12_stay 67 = .ok (.iload 4, 2) := by decide +kernel
theorem dX12_stay_69 : decode cX12_stay 69 = .ok (.iconst (-1), 1) := by decide +kernel
theorem dX12_stay_70 : decode cX12_stay 70 = .ok (.if_icmp .ne 7, 3) := by decide +kernel
theorem dX12_stay_73 : decode cX12_stay 73 = .ok (.iconst 0, 1) := by decide +kernel
theorem dX12_stay_74 : decode cX12_stay 74 = .ok (.goto 5, 3) := by decide +kernel
theorem dX12_stay_77 : decode cX12_stay 77 = .ok (.iload 4, 2) := by decide +kernel
theorem dX12_stay_79 : decode cX12_stay 79 = .ok (.invokevirtual 160, 3) := by decide +kernel
theorem dX12_stay_82 : decode cX12_stay 82 = .ok (.ifCond .eq 10, 3) := by decide +kernel
theorem dX12_stay_85 : decode cX12_stay 85 = .ok (.aload_n 0, 1) := by decide +kernel
theorem dX12_stay_86 : decode cX12_stay 86 = .ok (.bipush (-3), 2) := by decide +kernel
theorem dX12_stay_88 : decode cX12_stay 88 = .ok (.invokevirtual 125, 3) := by decide +kernel
theorem dX12_stay_91 : decode cX12_stay 91 = .ok (.ireturn, 1) := by decide +kernel
theorem dX12_stay_92 : decode cX12_stay 92 = .ok (.aload_n 0, 1) := by decide +kernel
theorem dX12_stay_93 : decode cX12_stay 93 = .ok (.iload_n 1, 1) := by decide +kernel
theorem dX12_stay_94 : decode cX12_stay 94 = .ok (.iload_n 2, 1) := by decide +kernel
theorem dX12_stay_95 : decode cX12_stay 95 = .ok (.iload_n 3, 1) := by decide +kernel
theorem dX12_stay_96 : decode cX12_stay 96 = .ok (.iload 4, 2) := by decide +kernel
theorem dX12_stay_98 : decode cX12_stay 98 = .ok (.invokevirtual 183, 3) := by decide +kernel
theorem dX12_stay_101 : decode cX12_stay 101 = .ok (.aload_n 0, 1) := by decide +kernel
theorem dX12_stay_102 : decode cX12_stay 102 = .ok (.iconst 0, 1) := by decide +kernel
theorem dX12_stay_103 : decode cX12_stay 103 = .ok (.invokevirtual 125, 3) := by decide +kernel
theorem dX12_stay_106 : decode cX12_stay 106 = .ok (.ireturn, 1) := by decide +kernel
