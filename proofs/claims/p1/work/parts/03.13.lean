set_option maxHeartbeats 4000000 in
set_option maxRecDepth 100000 in
theorem kX11_lit (l : Launch) (G : g5_G) (a0 a1 a2 a3 a4 a5 a6 a7 a8 a9 a10 a11 a12 a13 a14 a15 a16 a17 a18 a19 a20 a21 a22 : Nat) (sz : Nat) (n0 : Int32) (n1 : Int32) (n2 : Int32) : Met l yX11_lit (wsG yX11_lit cX11_lit 6 (some .int)) ({ frames := 4, cells := 0, slots := 0, locals := 96 }) (va_Pc [.ref a0, .int n0, .int n1, .int n2] (g5_P G [(a0, .inr (11, [.ref a1, .ref a2, .ref a3, .ref a4, .ref a5, .ref a6, .ref a7, .ref a8, .ref a9, .ref a10, .int 0, .int 0, .int (-1), .ref a11, .int 0, .ref a12, .int 0])), (a4, .inr (5, [.ref a1, .ref a13, .ref a14, .int 0, .int 0, .int 0, .int 0, .int 0, .int 0, .int 0, .int 0, .int 0, .int 0])), (a1, .inr (1, [.long 0, .int 1000, .int (-1), .int (-1), .int 0, .ref a15, .ref a16, .ref a17, .ref a18, .ref a19, .ref a20, .long 0, .ref a21])), (a14, .inl (G.2 0, 200, .inl (fun _ => 0))), (a21, .inl (G.2 1, 24, .inr (.inl (fun _ => 0)))), (a19, .inr (6, [.int 8, .int 5, .ref a22, .int 0]))] sz)) (va_Qi (fun (r : Int32) (u : va_W) => ((n0.toInt < 0) ∧ (r = (-1)) ∧ (u = [])) ∨ ((n0.toInt ≥ 0) ∧ (n0.toInt ≥ 64) ∧ (r = (-1)) ∧ (u = [])) ∨ ((n0.toInt ≥ 0) ∧ (n0.toInt < 64) ∧ (n1.toInt < 0) ∧ (r = (-1)) ∧ (u = [])) ∨ ((n0.toInt ≥ 0) ∧ (n0.toInt < 64) ∧ (n1.toInt ≥ 0) ∧ (n1.toInt ≥ 24) ∧ (r = (-1)) ∧ (u = [])) ∨ ((n0.toInt ≥ 0) ∧ (n0.toInt < 64) ∧ (n1.toInt ≥ 0) ∧ (n1.toInt < 24) ∧ (n2.toInt < (-1)) ∧ (r = (-1)) ∧ (u = [])) ∨ ((n0.toInt ≥ 0) ∧ (n0.toInt < 64) ∧ (n1.toInt ≥ 0) ∧ (n1.toInt < 24) ∧ (n2.toInt ≥ (-1)) ∧ (n2.toInt ≥ 64) ∧ (r = (-1)) ∧ (u = [])) ∨ (∃ (z26 : Int64), (n0.toInt ≥ 0) ∧ (n0.toInt < 64) ∧ (n1.toInt ≥ 0) ∧ (n1.toInt < 24) ∧ (n2.toInt ≥ (-1)) ∧ (n2.toInt < 64) ∧ (z26 = litB n0.toInt) ∧ (n2.toInt ≠ (-1)) ∧ (onB z26 n2.toInt = false) ∧ (r = 0) ∧ (u = [])) ∨ (∃ (z26 : Int64), (n0.toInt ≥ 0) ∧ (n0.toInt < 64) ∧ (n1.toInt ≥ 0) ∧ (n1.toInt < 24) ∧ (n2.toInt ≥ (-1)) ∧ (n2.toInt < 64) ∧ (z26 = litB n0.toInt) ∧ (n2.toInt ≠ (-1)) ∧ (onB z26 n2.toInt = true) ∧ (r = 1) ∧ (u = [])) ∨ (∃ (z26 : Int64), (n0.toInt ≥ 0) ∧ (n0.toInt < 64) ∧ (n1.toInt ≥ 0) ∧ (n1.toInt < 24) ∧ (n2.toInt ≥ (-1)) ∧ (n2.toInt < 64) ∧ (z26 = litB n0.toInt) ∧ (n2.toInt = (-1)) ∧ (r = ((((((((((z26 - (((z26.toUInt64 >>> ((1 : Int32).toInt64.toUInt64 &&& Int64.toUInt64 63)).toInt64) &&& 6148914691236517205)) &&& 3689348814741910323) + ((((z26 - (((z26.toUInt64 >>> ((1 : Int32).toInt64.toUInt64 &&& Int64.toUInt64 63)).toInt64) &&& 6148914691236517205)).toUInt64 >>> ((2 : Int32).toInt64.toUInt64 &&& Int64.toUInt64 63)).toInt64) &&& 3689348814741910323)) + (((((z26 - (((z26.toUInt64 >>> ((1 : Int32).toInt64.toUInt64 &&& Int64.toUInt64 63)).toInt64) &&& 6148914691236517205)) &&& 3689348814741910323) + ((((z26 - (((z26.toUInt64 >>> ((1 : Int32).toInt64.toUInt64 &&& Int64.toUInt64 63)).toInt64) &&& 6148914691236517205)).toUInt64 >>> ((2 : Int32).toInt64.toUInt64 &&& Int64.toUInt64 63)).toInt64) &&& 3689348814741910323)).toUInt64 >>> ((4 : Int32).toInt64.toUInt64 &&& Int64.toUInt64 63)).toInt64)) &&& 1085102592571150095) + (((((((z26 - (((z26.toUInt64 >>> ((1 : Int32).toInt64.toUInt64 &&& Int64.toUInt64 63)).toInt64) &&& 6148914691236517205)) &&& 3689348814741910323) + ((((z26 - (((z26.toUInt64 >>> ((1 : Int32).toInt64.toUInt64 &&& Int64.toUInt64 63)).toInt64) &&& 6148914691236517205)).toUInt64 >>> ((2 : Int32).toInt64.toUInt64 &&& Int64.toUInt64 63)).toInt64) &&& 3689348814741910323)) + (((((z26 - (((z26.toUInt64 >>> ((1 : Int32).toInt64.toUInt64 &&& Int64.toUInt64 63)).toInt64) &&& 6148914691236517205)) &&& 3689348814741910323) + ((((z26 - (((z26.toUInt64 >>> ((1 : Int32).toInt64.toUInt64 &&& Int64.toUInt64 63)).toInt64) &&& 6148914691236517205)).toUInt64 >>> ((2 : Int32).toInt64.toUInt64 &&& Int64.toUInt64 63)).toInt64) &&& 3689348814741910323)).toUInt64 >>> ((4 : Int32).toInt64.toUInt64 &&& Int64.toUInt64 63)).toInt64)) &&& 1085102592571150095).toUInt64 >>> ((8 : Int32).toInt64.toUInt64 &&& Int64.toUInt64 63)).toInt64)) + ((((((((z26 - (((z26.toUInt64 >>> ((1 : Int32).toInt64.toUInt64 &&& Int64.toUInt64 63)).toInt64) &&& 6148914691236517205)) &&& 3689348814741910323) + ((((z26 - (((z26.toUInt64 >>> ((1 : Int32).toInt64.toUInt64 &&& Int64.toUInt64 63)).toInt64) &&& 6148914691236517205)).toUInt64 >>> ((2 : Int32).toInt64.toUInt64 &&& Int64.toUInt64 63)).toInt64) &&& 3689348814741910323)) + (((((z26 - (((z26.toUInt64 >>> ((1 : Int32).toInt64.toUInt64 &&& Int64.toUInt64 63)).toInt64) &&& 6148914691236517205)) &&& 3689348814741910323) + ((((z26 - (((z26.toUInt64 >>> ((1 : Int32).toInt64.toUInt64 &&& Int64.toUInt64 63)).toInt64) &&& 6148914691236517205)).toUInt64 >>> ((2 : Int32).toInt64.toUInt64 &&& Int64.toUInt64 63)).toInt64) &&& 3689348814741910323)).toUInt64 >>> ((4 : Int32).toInt64.toUInt64 &&& Int64.toUInt64 63)).toInt64)) &&& 1085102592571150095) + (((((((z26 - (((z26.toUInt64 >>> ((1 : Int32).toInt64.toUInt64 &&& Int64.toUInt64 63)).toInt64) &&& 6148914691236517205)) &&& 3689348814741910323) + ((((z26 - (((z26.toUInt64 >>> ((1 : Int32).toInt64.toUInt64 &&& Int64.toUInt64 63)).toInt64) &&& 6148914691236517205)).toUInt64 >>> ((2 : Int32).toInt64.toUInt64 &&& Int64.toUInt64 63)).toInt64) &&& 3689348814741910323)) + (((((z26 - (((z26.toUInt64 >>> ((1 : Int32).toInt64.toUInt64 &&& Int64.toUInt64 63)).toInt64) &&& 6148914691236517205)) &&& 3689348814741910323) + ((((z26 - (((z26.toUInt64 >>> ((1 : Int32).toInt64.toUInt64 &&& Int64.toUInt64 63)).toInt64) &&& 6148914691236517205)).toUInt64 >>> ((2 : Int32).toInt64.toUInt64 &&& Int64.toUInt64 63)).toInt64) &&& 3689348814741910323)).toUInt64 >>> ((4 : Int32).toInt64.toUInt64 &&& Int64.toUInt64 63)).toInt64)) &&& 1085102592571150095).toUInt64 >>> ((8 : Int32).toInt64.toUInt64 &&& Int64.toUInt64 63)).toInt64)).toUInt64 >>> ((16 : Int32).toInt64.toUInt64 &&& Int64.toUInt64 63)).toInt64)) + (((((((((z26 - (((z26.toUInt64 >>> ((1 : Int32).toInt64.toUInt64 &&& Int64.toUInt64 63)).toInt64) &&& 6148914691236517205)) &&& 3689348814741910323) + ((((z26 - (((z26.toUInt64 >>> ((1 : Int32).toInt64.toUInt64 &&& Int64.toUInt64 63)).toInt64) &&& 6148914691236517205)).toUInt64 >>> ((2 : Int32).toInt64.toUInt64 &&& Int64.toUInt64 63)).toInt64) &&& 3689348814741910323)) + (((((z26 - (((z26.toUInt64 >>> ((1 : Int32).toInt64.toUInt64 &&& Int64.toUInt64 63)).toInt64) &&& 6148914691236517205)) &&& 3689348814741910323) + ((((z26 - (((z26.toUInt64 >>> ((1 : Int32).toInt64.toUInt64 &&& Int64.toUInt64 63)).toInt64) &&& 6148914691236517205)).toUInt64 >>> ((2 : Int32).toInt64.toUInt64 &&& Int64.toUInt64 63)).toInt64) &&& 3689348814741910323)).toUInt64 >>> ((4 : Int32).toInt64.toUInt64 &&& Int64.toUInt64 63)).toInt64)) &&& 1085102592571150095) + (((((((z26 - (((z26.toUInt64 >>> ((1 : Int32).toInt64.toUInt64 &&& Int64.toUInt64 63)).toInt64) &&& 6148914691236517205)) &&& 3689348814741910323) + ((((z26 - (((z26.toUInt64 >>> ((1 : Int32).toInt64.toUInt64 &&& Int64.toUInt64 63)).toInt64) &&& 6148914691236517205)).toUInt64 >>> ((2 : Int32).toInt64.toUInt64 &&& Int64.toUInt64 63)).toInt64) &&& 3689348814741910323)) + (((((z26 - (((z26.toUInt64 >>> ((1 : Int32).toInt64.toUInt64 &&& Int64.toUInt64 63)).toInt64) &&& 6148914691236517205)) &&& 3689348814741910323) + ((((z26 - (((z26.toUInt64 >>> ((1 : Int32).toInt64.toUInt64 &&& Int64.toUInt64 63)).toInt64) &&& 6148914691236517205)).toUInt64 >>> ((2 : Int32).toInt64.toUInt64 &&& Int64.toUInt64 63)).toInt64) &&& 3689348814741910323)).toUInt64 >>> ((4 : Int32).toInt64.toUInt64 &&& Int64.toUInt64 63)).toInt64)) &&& 1085102592571150095).toUInt64 >>> ((8 : Int32).toInt64.toUInt64 &&& Int64.toUInt64 63)).toInt64)) + ((((((((z26 - (((z26.toUInt64 >>> ((1 : Int32).toInt64.toUInt64 &&& Int64.toUInt64 63)).toInt64) &&& 6148914691236517205)) &&& 3689348814741910323) + ((((z26 - (((z26.toUInt64 >>> ((1 : Int32).toInt64.toUInt64 &&& Int64.toUInt64 63)).toInt64) &&& 6148914691236517205)).toUInt64 >>> ((2 : Int32).toInt64.toUInt64 &&& Int64.toUInt64 63)).toInt64) &&& 3689348814741910323)) + (((((z26 - (((z26.toUInt64 >>> ((1 : Int32).toInt64.toUInt64 &&& Int64.toUInt64 63)).toInt64) &&& 6148914691236517205)) &&& 3689348814741910323) + ((((z26 - (((z26.toUInt64 >>> ((1 : Int32).toInt64.toUInt64 &&& Int64.toUInt64 63)).toInt64) &&& 6148914691236517205)).toUInt64 >>> ((2 : Int32).toInt64.toUInt64 &&& Int64.toUInt64 63)).toInt64) &&& 3689348814741910323)).toUInt64 >>> ((4 : Int32).toInt64.toUInt64 &&& Int64.toUInt64 63)).toInt64)) &&& 1085102592571150095) + (((((((z26 - (((z26.toUInt64 >>> ((1 : Int32).toInt64.toUInt64 &&& Int64.toUInt64 63)).toInt64) &&& 6148914691236517205)) &&& 3689348814741910323) + ((((z26 - (((z26.toUInt64 >>> ((1 : Int32).toInt64.toUInt64 &&& Int64.toUInt64 63)).toInt64) &&& 6148914691236517205)).toUInt64 >>> ((2 : Int32).toInt64.toUInt64 &&& Int64.toUInt64 63)).toInt64) &&& 3689348814741910323)) + (((((z26 - (((z26.toUInt64 >>> ((1 : Int32).toInt64.toUInt64 &&& Int64.toUInt64 63)).toInt64) &&& 6148914691236517205)) &&& 3689348814741910323) + ((((z26 - (((z26.toUInt64 >>> ((1 : Int32).toInt64.toUInt64 &&& Int64.toUInt64 63)).toInt64) &&& 6148914691236517205)).toUInt64 >>> ((2 : Int32).toInt64.toUInt64 &&& Int64.toUInt64 63)).toInt64) &&& 3689348814741910323)).toUInt64 >>> ((4 : Int32).toInt64.toUInt64 &&& Int64.toUInt64 63)).toInt64)) &&& 1085102592571150095).toUInt64 >>> ((8 : Int32).toInt64.toUInt64 &&& Int64.toUInt64 63)).toInt64)).toUInt64 >>> ((16 : Int32).toInt64.toUInt64 &&& Int64.toUInt64 63)).toInt64)).toUInt64 >>> ((32 : Int32).toInt64.toUInt64 &&& Int64.toUInt64 63)).toInt64)).toInt32) &&& 127)) ∧ (u = []))) (g5_B G (va_A [(a0, .inr (11, [.ref a1, .ref a2, .ref a3, .ref a4, .ref a5, .ref a6, .ref a7, .ref a8, .ref a9, .ref a10, .int 0, .int 0, .int (-1), .ref a11, .int 0, .ref a12, .int 0])), (a4, .inr (5, [.ref a1, .ref a13, .ref a14, .int 0, .int 0, .int 0, .int 0, .int 0, .int 0, .int 0, .int 0, .int 0, .int 0])), (a1, .inr (1, [.long 0, .int 1000, .int (-1), .int (-1), .int 0, .ref a15, .ref a16, .ref a17, .ref a18, .ref a19, .ref a20, .long 0, .ref a21])), (a14, .inl (G.2 0, 200, .inl (fun _ => 0))), (a21, .inl (G.2 1, 24, .inr (.inl (fun _ => 0)))), (a19, .inr (6, [.int 8, .int 5, .ref a22, .int 0]))] sz)) (va_A [(a0, .inr (11, [.ref a1, .ref a2, .ref a3, .ref a4, .ref a5, .ref a6, .ref a7, .ref a8, .ref a9, .ref a10, .int 0, .int 0, .int (-1), .ref a11, .int 0, .ref a12, .int 0])), (a4, .inr (5, [.ref a1, .ref a13, .ref a14, .int 0, .int 0, .int 0, .int 0, .int 0, .int 0, .int 0, .int 0, .int 0, .int 0])), (a1, .inr (1, [.long 0, .int 1000, .int (-1), .int (-1), .int 0, .ref a15, .ref a16, .ref a17, .ref a18, .ref a19, .ref a20, .long 0, .ref a21])), (a14, .inl (G.2 0, 200, .inl (fun _ => 0))), (a21, .inl (G.2 1, 24, .inr (.inl (fun _ => 0)))), (a19, .inr (6, [.int 8, .int 5, .ref a22, .int 0]))] sz)) 0 0 (va_A [(a0, .inr (11, [.ref a1, .ref a2, .ref a3, .ref a4, .ref a5, .ref a6, .ref a7, .ref a8, .ref a9, .ref a10, .int 0, .int 0, .int (-1), .ref a11, .int 0, .ref a12, .int 0])), (a4, .inr (5, [.ref a1, .ref a13, .ref a14, .int 0, .int 0, .int 0, .int 0, .int 0, .int 0, .int 0, .int 0, .int 0, .int 0])), (a1, .inr (1, [.long 0, .int 1000, .int (-1), .int (-1), .int 0, .ref a15, .ref a16, .ref a17, .ref a18, .ref a19, .ref a20, .long 0, .ref a21])), (a14, .inl (G.2 0, 200, .inl (fun _ => 0))), (a21, .inl (G.2 1, 24, .inr (.inl (fun _ => 0)))), (a19, .inr (6, [.int 8, .int 5, .ref a22, .int 0]))] sz) := by
  refine Met.ofW (cc := cX11_lit) (maxL := 6) (ret := (some .int)) (by decide) rfl ?_
  intro p e s m args below meth c s₁ B hml hv
  obtain ⟨rfl, hsz, hP, hK, hD0, hN, hT⟩ := hv
  have hx := B.exec
  have hb := B.bytes
  have hr := B.returns
  have hts : ∀ w ∈ tblG, w.before _ s = true := fun w h => atoms_spec (ws := (wsG yX11_lit cX11_lit 6 (some .int))) B.pre w (List.mem_cons_of_mem _ h)
  have hown : s.vm.findClass RX11 = some m.cls := findClass_of_methodNamed B.named
  have hlocks := B.notSynchronized
  subst hsz
  have hD := hD0.self (sz := s.heap.size)
  generalize hAe : va_A [(a0, .inr (11, [.ref a1, .ref a2, .ref a3, .ref a4, .ref a5, .ref a6, .ref a7, .ref a8, .ref a9, .ref a10, .int 0, .int 0, .int (-1), .ref a11, .int 0, .ref a12, .int 0])), (a4, .inr (5, [.ref a1, .ref a13, .ref a14, .int 0, .int 0, .int 0, .int 0, .int 0, .int 0, .int 0, .int 0, .int 0, .int 0])), (a1, .inr (1, [.long 0, .int 1000, .int (-1), .int (-1), .int 0, .ref a15, .ref a16, .ref a17, .ref a18, .ref a19, .ref a20, .long 0, .ref a21])), (a14, .inl (G.2 0, 200, .inl (fun _ => 0))), (a21, .inl (G.2 1, 24, .inr (.inl (fun _ => 0)))), (a19, .inr (6, [.int 8, .int 5, .ref a22, .int 0]))] s.heap.size = A at hD hT ⊢
  have hA : ∀ q : Nat, s.heap.size ≤ q → A q := fun q h => by rw [← hAe]; exact Or.inr h
  have hS : va_S A s.heap s.heap [] := va_S.rf
  have hP : va_P G.1 vwCl [(a0, .inr (11, [.ref a1, .ref a2, .ref a3, .ref a4, .ref a5, .ref a6, .ref a7, .ref a8, .ref a9, .ref a10, .int 0, .int 0, .int (-1), .ref a11, .int 0, .ref a12, .int 0])), (a4, .inr (5, [.ref a1, .ref a13, .ref a14, .int 0, .int 0, .int 0, .int 0, .int 0, .int 0, .int 0, .int 0, .int 0, .int 0])), (a1, .inr (1, [.long 0, .int 1000, .int (-1), .int (-1), .int 0, .ref a15, .ref a16, .ref a17, .ref a18, .ref a19, .ref a20, .long 0, .ref a21])), (a14, .inl (G.2 0, 200, .inl (fun _ => 0))), (a21, .inl (G.2 1, 24, .inr (.inl (fun _ => 0)))), (a19, .inr (6, [.int 8, .int 5, .ref a22, .int 0]))] s.heap := hP
  have hl := lv_entry ([.ref a0, .int n0, .int n1, .int n2]) (n := 6) (Nat.le_of_ble_eq_true rfl)
  rw [lg_entry_eq]
  generalize (lg_sl ([.ref a0, .int n0, .int n1, .int n2]) ++ List.replicate (6 - (lg_sl ([.ref a0, .int n0, .int n1, .int n2])).length) Slot.unset).toArray = ls at hl ⊢
  have hl : lv_has ls 6 [(0, .ref a0), (1, .int n0), (2, .int n1), (3, .int n2)] := hl
  refine lv_iload_n hx hb dX11_lit_0 rfl (lv_at hl 1 rfl) ?_
  have hPc := hP.sub (ws' := []) [] rfl
  have hDc := hD.sub (ws' := []) [] (by decide) rfl
  have hFc := va_free (wc := []) hD hS hA [] rfl
  refine va_calli (va_runS (As := [.int n0]) (rest := []) ⟨hx, hb, hml, hown, hts⟩ (kX11_isCell_2 l G s.heap.size n0) (va_cwS 1 hts gS_X11_97 rfl rfl rfl hs_X11_isCell ⟨Nat.le_of_ble_eq_true rfl, Nat.le_of_ble_eq_true rfl⟩) (g5_preS hPc hK hDc hN hT hS hFc) rfl rfl hl.1 rfl (lv_room (Nat.le_of_ble_eq_true rfl)) dX11_lit_1 ⟨Nat.le_of_ble_eq_true rfl, Nat.le_of_ble_eq_true rfl⟩) hS (fun q _ h => hFc q h) hFc (fun r u t H1 locs ht hvm hw hB hz1 hk1 hS => ?_)
  obtain ⟨hP1, hD1⟩ := hB
  rw [ht] at hP1
  rcases hw with ⟨i_1, rfl, rfl⟩ | ⟨i_2, i_3, rfl, rfl⟩ | ⟨i_4, i_5, rfl, rfl⟩
  ·
    have hP := g5_same hP hk1
    generalize H1 = H at hP hS ⊢
    refine lv_if_eq (tgt := 21) hx hb dX11_lit_4 (by decide) (fun c_6 => ?_) (fun c_6 => ?_)
    ·
      refine lv_iconst (v := (-1)) hx hb dX11_lit_21 (by decide) ?_
      have hP := hP.sub (ws' := []) [] rfl
      have hD := hD.sub (ws' := []) [] (by decide) rfl
      exact W.iret (v := (-1)) hx hb hr (fun t ht hW => ⟨⟨(-1), [], rfl, Or.inl (⟨i_1, rfl, rfl⟩), by rw [ht]; exact hP, hD⟩, hS.F ht⟩) hS.2.2 dX11_lit_22
    ·
      exact absurd c_6 (by decide)
  ·
    have hP := g5_same hP hk1
    generalize H1 = H at hP hS ⊢
    refine lv_if_eq (tgt := 21) hx hb dX11_lit_4 (by decide) (fun c_7 => ?_) (fun c_7 => ?_)
    ·
      refine lv_iconst (v := (-1)) hx hb dX11_lit_21 (by decide) ?_
      have hP := hP.sub (ws' := []) [] rfl
      have hD := hD.sub (ws' := []) [] (by decide) rfl
      exact W.iret (v := (-1)) hx hb hr (fun t ht hW => ⟨⟨(-1), [], rfl, Or.inr (Or.inl (⟨i_2, i_3, rfl, rfl⟩)), by rw [ht]; exact hP, hD⟩, hS.F ht⟩) hS.2.2 dX11_lit_22
    ·
      exact absurd c_7 (by decide)
  ·
    have hP := g5_same hP hk1
    generalize H1 = H at hP hS ⊢
    refine lv_if_eq (tgt := 21) hx hb dX11_lit_4 (by decide) (fun c_8 => ?_) (fun c_8 => ?_)
    ·
      exact absurd c_8 (by decide)
    ·
      refine lv_iload_n hx hb dX11_lit_7 rfl (lv_at hl 2 rfl) ?_
      have hPc := hP.sub (ws' := []) [] rfl
      have hDc := hD.sub (ws' := []) [] (by decide) rfl
      have hFc := va_free (wc := []) hD hS hA [] rfl
      refine va_calli (va_runS (As := [.int n1]) (rest := []) ⟨hx, hb, hml, hown, hts⟩ (kX11_isHour_2 l G H.size n1) (va_cwS 1 hts gS_X11_127 rfl rfl rfl hs_X11_isHour ⟨Nat.le_of_ble_eq_true rfl, Nat.le_of_ble_eq_true rfl⟩) (g5_preS hPc hK hDc hN hT hS hFc) rfl rfl hl.1 rfl (lv_room (Nat.le_of_ble_eq_true rfl)) dX11_lit_8 ⟨Nat.le_of_ble_eq_true rfl, Nat.le_of_ble_eq_true rfl⟩) hS (fun q _ h => hFc q h) hFc (fun r u t H1 locs ht hvm hw hB hz1 hk1 hS => ?_)
      obtain ⟨hP1, hD1⟩ := hB
      rw [ht] at hP1
      rcases hw with ⟨i_9, rfl, rfl⟩ | ⟨i_10, i_11, rfl, rfl⟩ | ⟨i_12, i_13, rfl, rfl⟩
      ·
        have hP := g5_same hP hk1
        generalize H1 = H at hP hS ⊢
        refine lv_if_eq (tgt := 21) hx hb dX11_lit_11 (by decide) (fun c_14 => ?_) (fun c_14 => ?_)
        ·
          refine lv_iconst (v := (-1)) hx hb dX11_lit_21 (by decide) ?_
          have hP := hP.sub (ws' := []) [] rfl
          have hD := hD.sub (ws' := []) [] (by decide) rfl
          exact W.iret (v := (-1)) hx hb hr (fun t ht hW => ⟨⟨(-1), [], rfl, Or.inr (Or.inr (Or.inl (⟨i_4, i_5, i_9, rfl, rfl⟩))), by rw [ht]; exact hP, hD⟩, hS.F ht⟩) hS.2.2 dX11_lit_22
        ·
          exact absurd c_14 (by decide)
      ·
        have hP := g5_same hP hk1
        generalize H1 = H at hP hS ⊢
        refine lv_if_eq (tgt := 21) hx hb dX11_lit_11 (by decide) (fun c_15 => ?_) (fun c_15 => ?_)
        ·
          refine lv_iconst (v := (-1)) hx hb dX11_lit_21 (by decide) ?_
          have hP := hP.sub (ws' := []) [] rfl
          have hD := hD.sub (ws' := []) [] (by decide) rfl
          exact W.iret (v := (-1)) hx hb hr (fun t ht hW => ⟨⟨(-1), [], rfl, Or.inr (Or.inr (Or.inr (Or.inl (⟨i_4, i_5, i_10, i_11, rfl, rfl⟩)))), by rw [ht]; exact hP, hD⟩, hS.F ht⟩) hS.2.2 dX11_lit_22
        ·
          exact absurd c_15 (by decide)
      ·
        have hP := g5_same hP hk1
        generalize H1 = H at hP hS ⊢
        refine lv_if_eq (tgt := 21) hx hb dX11_lit_11 (by decide) (fun c_16 => ?_) (fun c_16 => ?_)
        ·
          exact absurd c_16 (by decide)
        ·
          refine lv_iload_n hx hb dX11_lit_14 rfl (lv_at hl 3 rfl) ?_
          have hPc := hP.sub (ws' := []) [] rfl
          have hDc := hD.sub (ws' := []) [] (by decide) rfl
          have hFc := va_free (wc := []) hD hS hA [] rfl
          refine va_calli (va_runS (As := [.int n2]) (rest := []) ⟨hx, hb, hml, hown, hts⟩ (kX11_isCellOrNone l G H.size n2) (va_cwS 1 hts gS_X11_241 rfl rfl rfl hs_X11_isCellOrNone ⟨Nat.le_of_ble_eq_true rfl, Nat.le_of_ble_eq_true rfl⟩) (g5_preS hPc hK hDc hN hT hS hFc) rfl rfl hl.1 rfl (lv_room (Nat.le_of_ble_eq_true rfl)) dX11_lit_15 ⟨Nat.le_of_ble_eq_true rfl, Nat.le_of_ble_eq_true rfl⟩) hS (fun q _ h => hFc q h) hFc (fun r u t H1 locs ht hvm hw hB hz1 hk1 hS => ?_)
          obtain ⟨hP1, hD1⟩ := hB
          rw [ht] at hP1
          rcases hw with ⟨i_17, rfl, rfl⟩ | ⟨i_18, i_19, rfl, rfl⟩ | ⟨i_20, i_21, rfl, rfl⟩
          ·
            have hP := g5_same hP hk1
            generalize H1 = H at hP hS ⊢
            refine lv_if_ne (tgt := 23) hx hb dX11_lit_18 (by decide) (fun c_22 => ?_) (fun c_22 => ?_)
            ·
              exact absurd c_22 (by decide)
            ·
              refine lv_iconst (v := (-1)) hx hb dX11_lit_21 (by decide) ?_
              have hP := hP.sub (ws' := []) [] rfl
              have hD := hD.sub (ws' := []) [] (by decide) rfl
              exact W.iret (v := (-1)) hx hb hr (fun t ht hW => ⟨⟨(-1), [], rfl, Or.inr (Or.inr (Or.inr (Or.inr (Or.inl (⟨i_4, i_5, i_12, i_13, i_17, rfl, rfl⟩))))), by rw [ht]; exact hP, hD⟩, hS.F ht⟩) hS.2.2 dX11_lit_22
          ·
            have hP := g5_same hP hk1
            generalize H1 = H at hP hS ⊢
            refine lv_if_ne (tgt := 23) hx hb dX11_lit_18 (by decide) (fun c_23 => ?_) (fun c_23 => ?_)
            ·
              exact absurd c_23 (by decide)
            ·
              refine lv_iconst (v := (-1)) hx hb dX11_lit_21 (by decide) ?_
              have hP := hP.sub (ws' := []) [] rfl
              have hD := hD.sub (ws' := []) [] (by decide) rfl
              exact W.iret (v := (-1)) hx hb hr (fun t ht hW => ⟨⟨(-1), [], rfl, Or.inr (Or.inr (Or.inr (Or.inr (Or.inr (Or.inl (⟨i_4, i_5, i_12, i_13, i_18, i_19, rfl, rfl⟩)))))), by rw [ht]; exact hP, hD⟩, hS.F ht⟩) hS.2.2 dX11_lit_22
          ·
            have hP := g5_same hP hk1
            generalize H1 = H at hP hS ⊢
            refine lv_if_ne (tgt := 23) hx hb dX11_lit_18 (by decide) (fun c_24 => ?_) (fun c_24 => ?_)
            ·
              refine lv_aload_n hx hb dX11_lit_23 rfl (lv_at hl 0 rfl) ?_
              refine va_get (D := G.1) (ci := 11) (v := .ref a4) (C := RX11) (T := TX11) (N := 17) hx hb hts inG_X11 hown hK hP 0 rfl rfl 3 (by decide) (hts _ fl_X11_29) (fun _ h9 => h9) rfl dX11_lit_24 ?_
              refine lv_iload_n hx hb dX11_lit_27 rfl (lv_at hl 1 rfl) ?_
              refine lv_iload_n hx hb dX11_lit_28 rfl (lv_at hl 2 rfl) ?_
              have hPc := hP.sub (ws' := [(a4, .inr (5, [.ref a1, .ref a13, .ref a14, .int 0, .int 0, .int 0, .int 0, .int 0, .int 0, .int 0, .int 0, .int 0, .int 0])), (a1, .inr (1, [.long 0, .int 1000, .int (-1), .int (-1), .int 0, .ref a15, .ref a16, .ref a17, .ref a18, .ref a19, .ref a20, .long 0, .ref a21])), (a14, .inl (G.2 0, 200, .inl (fun _ => 0))), (a21, .inl (G.2 1, 24, .inr (.inl (fun _ => 0)))), (a19, .inr (6, [.int 8, .int 5, .ref a22, .int 0]))]) [1, 2, 3, 4, 5] rfl
              have hDc := hD.sub (ws' := [(a4, .inr (5, [.ref a1, .ref a13, .ref a14, .int 0, .int 0, .int 0, .int 0, .int 0, .int 0, .int 0, .int 0, .int 0, .int 0])), (a1, .inr (1, [.long 0, .int 1000, .int (-1), .int (-1), .int 0, .ref a15, .ref a16, .ref a17, .ref a18, .ref a19, .ref a20, .long 0, .ref a21])), (a14, .inl (G.2 0, 200, .inl (fun _ => 0))), (a21, .inl (G.2 1, 24, .inr (.inl (fun _ => 0)))), (a19, .inr (6, [.int 8, .int 5, .ref a22, .int 0]))]) [1, 2, 3, 4, 5] (by decide) rfl
              have hFc := va_free (wc := [(a4, .inr (5, [.ref a1, .ref a13, .ref a14, .int 0, .int 0, .int 0, .int 0, .int 0, .int 0, .int 0, .int 0, .int 0, .int 0])), (a1, .inr (1, [.long 0, .int 1000, .int (-1), .int (-1), .int 0, .ref a15, .ref a16, .ref a17, .ref a18, .ref a19, .ref a20, .long 0, .ref a21])), (a14, .inl (G.2 0, 200, .inl (fun _ => 0))), (a21, .inl (G.2 1, 24, .inr (.inl (fun _ => 0)))), (a19, .inr (6, [.int 8, .int 5, .ref a22, .int 0]))]) hD hS hA [1, 2, 3, 4, 5] rfl
              refine va_calll (va_runV (As := [.int n0, .int n1]) (rest := []) ⟨hx, hb, hml, hown, hts⟩ (k_cellsFrom l G a4 a1 a14 a21 a19 a13 a15 a16 a17 a18 a20 a22 H.size n0 n1 0 0 0 0 0 0 0 0 0 (fun _ => 0) ⟨by omega, by omega⟩ ⟨by omega, by omega⟩) (cwV 2 hts gV_X11_244 rfl rfl rfl hv_X5_cellsFrom ⟨Nat.le_of_ble_eq_true rfl, Nat.le_of_ble_eq_true rfl⟩) (g5_preV hPc hK hDc hN hT hS hFc (ci := 5) (q0 := 0) rfl rfl) rfl rfl hl.1 rfl (lv_room (Nat.le_of_ble_eq_true rfl)) dX11_lit_29 ⟨Nat.le_of_ble_eq_true rfl, Nat.le_of_ble_eq_true rfl⟩) hS (fun q _ h => hFc q h) hFc (fun r u t H1 locs ht hvm hw hB hz1 hk1 hS => ?_)
              obtain ⟨hP1, hD1⟩ := hB
              rw [ht] at hP1
              obtain ⟨z26, i_25, y27, rfl⟩ := hw
              have i_25 : z26 = litB n0.toInt := i_25
              obtain ⟨hP, hD⟩ := va_join (wr := [(a0, .inr (11, [.ref a1, .ref a2, .ref a3, .ref a4, .ref a5, .ref a6, .ref a7, .ref a8, .ref a9, .ref a10, .int 0, .int 0, .int (-1), .ref a11, .int 0, .ref a12, .int 0]))]) (w1 := []) hP hD [1, 2, 3, 4, 5] [0] rfl rfl (by decide) (by decide) hk1 hFc hP1 hD1
              generalize H1 = H at hP hS ⊢
              have hP : va_P G.1 vwCl [(a0, .inr (11, [.ref a1, .ref a2, .ref a3, .ref a4, .ref a5, .ref a6, .ref a7, .ref a8, .ref a9, .ref a10, .int 0, .int 0, .int (-1), .ref a11, .int 0, .ref a12, .int 0]))] H := hP
              have hD : va_D A [(a0, .inr (11, [.ref a1, .ref a2, .ref a3, .ref a4, .ref a5, .ref a6, .ref a7, .ref a8, .ref a9, .ref a10, .int 0, .int 0, .int (-1), .ref a11, .int 0, .ref a12, .int 0]))] := hD
              refine g5_tl (v := z26) y27 ?_
              refine lv_lstore (lv' := [(4, .long z26), (0, .ref a0), (1, .int n0), (2, .int n1), (3, .int n2)]) hx hb dX11_lit_32 hl (by decide) rfl (fun ls hl => ?_)
              refine lv_iload_n hx hb dX11_lit_34 rfl (lv_at hl 4 rfl) ?_
              refine lv_iconst (v := (-1)) hx hb dX11_lit_35 (by decide) ?_
              refine lv_icmp_ne (tgt := 45) hx hb dX11_lit_36 (by decide) (fun c_28 => ?_) (fun c_28 => ?_)
              ·
                have i_28 : n2.toInt ≠ (-1) := by have z := g5_ne (a := n2.toInt) (b := (-1)) (by rfl) (by decide) c_28; omega
                refine lv_lload hx hb dX11_lit_45 (lv_at hl 0 rfl) ?_
                refine lv_iload_n hx hb dX11_lit_47 rfl (lv_at hl 4 rfl) ?_
                have hPc := hP.sub (ws' := []) [] rfl
                have hDc := hD.sub (ws' := []) [] (by decide) rfl
                have hFc := va_free (wc := []) hD hS hA [] rfl
                refine va_calli (va_runS (As := [.long z26, .int n2]) (rest := []) ⟨hx, hb, hml, hown, hts⟩ (k_isOn l G H.size n2 z26 ⟨by omega, by omega⟩) (va_cwS 2 hts gS_X11_115 rfl rfl rfl hs_X11_isOn ⟨Nat.le_of_ble_eq_true rfl, Nat.le_of_ble_eq_true rfl⟩) (g5_preS hPc hK hDc hN hT hS hFc) rfl rfl hl.1 rfl (lv_room (Nat.le_of_ble_eq_true rfl)) dX11_lit_48 ⟨Nat.le_of_ble_eq_true rfl, Nat.le_of_ble_eq_true rfl⟩) hS (fun q _ h => hFc q h) hFc (fun r u t H1 locs ht hvm hw hB hz1 hk1 hS => ?_)
                obtain ⟨hP1, hD1⟩ := hB
                rw [ht] at hP1
                rcases hw with ⟨i_29, rfl, rfl⟩ | ⟨i_30, rfl, rfl⟩
                ·
                  have i_29 : onB z26 n2.toInt = false := i_29
                  have hP := g5_same hP hk1
                  generalize H1 = H at hP hS ⊢
                  refine lv_if_eq (tgt := 58) hx hb dX11_lit_51 (by decide) (fun c_31 => ?_) (fun c_31 => ?_)
                  ·
                    refine lv_iconst (v := 0) hx hb dX11_lit_58 (by decide) ?_
                    have hP := hP.sub (ws' := []) [] rfl
                    have hD := hD.sub (ws' := []) [] (by decide) rfl
                    exact W.iret (v := 0) hx hb hr (fun t ht hW => ⟨⟨0, [], rfl, Or.inr (Or.inr (Or.inr (Or.inr (Or.inr (Or.inr (Or.inl (⟨z26, i_4, i_5, i_12, i_13, i_20, i_21, i_25, i_28, i_29, rfl, rfl⟩))))))), by rw [ht]; exact hP, hD⟩, hS.F ht⟩) hS.2.2 dX11_lit_59
                  ·
                    exact absurd c_31 (by decide)
                ·
                  have i_30 : onB z26 n2.toInt = true := i_30
                  have hP := g5_same hP hk1
                  generalize H1 = H at hP hS ⊢
                  refine lv_if_eq (tgt := 58) hx hb dX11_lit_51 (by decide) (fun c_32 => ?_) (fun c_32 => ?_)
                  ·
                    exact absurd c_32 (by decide)
                  ·
                    refine lv_iconst (v := 1) hx hb dX11_lit_54 (by decide) ?_
                    refine lv_goto (tgt := 59) hx hb dX11_lit_55 (by decide) ?_
                    have hP := hP.sub (ws' := []) [] rfl
                    have hD := hD.sub (ws' := []) [] (by decide) rfl
                    exact W.iret (v := 1) hx hb hr (fun t ht hW => ⟨⟨1, [], rfl, Or.inr (Or.inr (Or.inr (Or.inr (Or.inr (Or.inr (Or.inr (Or.inl (⟨z26, i_4, i_5, i_12, i_13, i_20, i_21, i_25, i_28, i_30, rfl, rfl⟩)))))))), by rw [ht]; exact hP, hD⟩, hS.F ht⟩) hS.2.2 dX11_lit_59
              ·
                have i_28 : n2.toInt = (-1) := by have z := g5_neN (a := n2.toInt) (b := (-1)) (by rfl) (by decide) c_28; omega
                refine lv_lload hx hb dX11_lit_39 (lv_at hl 0 rfl) ?_
                have hPc := hP.sub (ws' := []) [] rfl
                have hDc := hD.sub (ws' := []) [] (by decide) rfl
                have hFc := va_free (wc := []) hD hS hA [] rfl
                refine va_calli (va_runS (As := [.long z26]) (rest := []) ⟨hx, hb, hml, hown, hts⟩ (kJ13_bitCount_95d88 l G H.size z26) (va_cwS 1 hts gS_X11_248 rfl rfl rfl hs_J13_bitCount_95d88 ⟨Nat.le_of_ble_eq_true rfl, Nat.le_of_ble_eq_true rfl⟩) (g5_preS hPc hK hDc hN hT hS hFc) rfl rfl hl.1 rfl (lv_room (Nat.le_of_ble_eq_true rfl)) dX11_lit_41 ⟨Nat.le_of_ble_eq_true rfl, Nat.le_of_ble_eq_true rfl⟩) hS (fun q _ h => hFc q h) hFc (fun r u t H1 locs ht hvm hw hB hz1 hk1 hS => ?_)
                obtain ⟨hP1, hD1⟩ := hB
                rw [ht] at hP1
                obtain ⟨rfl, rfl⟩ := hw
                have hP := g5_same hP hk1
                generalize H1 = H at hP hS ⊢
                have hP := hP.sub (ws' := []) [] rfl
                have hD := hD.sub (ws' := []) [] (by decide) rfl
                exact W.iret (v := ((((((((((z26 - (((z26.toUInt64 >>> ((1 : Int32).toInt64.toUInt64 &&& Int64.toUInt64 63)).toInt64) &&& 6148914691236517205)) &&& 3689348814741910323) + ((((z26 - (((z26.toUInt64 >>> ((1 : Int32).toInt64.toUInt64 &&& Int64.toUInt64 63)).toInt64) &&& 6148914691236517205)).toUInt64 >>> ((2 : Int32).toInt64.toUInt64 &&& Int64.toUInt64 63)).toInt64) &&& 3689348814741910323)) + (((((z26 - (((z26.toUInt64 >>> ((1 : Int32).toInt64.toUInt64 &&& Int64.toUInt64 63)).toInt64) &&& 6148914691236517205)) &&& 3689348814741910323) + ((((z26 - (((z26.toUInt64 >>> ((1 : Int32).toInt64.toUInt64 &&& Int64.toUInt64 63)).toInt64) &&& 6148914691236517205)).toUInt64 >>> ((2 : Int32).toInt64.toUInt64 &&& Int64.toUInt64 63)).toInt64) &&& 3689348814741910323)).toUInt64 >>> ((4 : Int32).toInt64.toUInt64 &&& Int64.toUInt64 63)).toInt64)) &&& 1085102592571150095) + (((((((z26 - (((z26.toUInt64 >>> ((1 : Int32).toInt64.toUInt64 &&& Int64.toUInt64 63)).toInt64) &&& 6148914691236517205)) &&& 3689348814741910323) + ((((z26 - (((z26.toUInt64 >>> ((1 : Int32).toInt64.toUInt64 &&& Int64.toUInt64 63)).toInt64) &&& 6148914691236517205)).toUInt64 >>> ((2 : Int32).toInt64.toUInt64 &&& Int64.toUInt64 63)).toInt64) &&& 3689348814741910323)) + (((((z26 - (((z26.toUInt64 >>> ((1 : Int32).toInt64.toUInt64 &&& Int64.toUInt64 63)).toInt64) &&& 6148914691236517205)) &&& 3689348814741910323) + ((((z26 - (((z26.toUInt64 >>> ((1 : Int32).toInt64.toUInt64 &&& Int64.toUInt64 63)).toInt64) &&& 6148914691236517205)).toUInt64 >>> ((2 : Int32).toInt64.toUInt64 &&& Int64.toUInt64 63)).toInt64) &&& 3689348814741910323)).toUInt64 >>> ((4 : Int32).toInt64.toUInt64 &&& Int64.toUInt64 63)).toInt64)) &&& 1085102592571150095).toUInt64 >>> ((8 : Int32).toInt64.toUInt64 &&& Int64.toUInt64 63)).toInt64)) + ((((((((z26 - (((z26.toUInt64 >>> ((1 : Int32).toInt64.toUInt64 &&& Int64.toUInt64 63)).toInt64) &&& 6148914691236517205)) &&& 3689348814741910323) + ((((z26 - (((z26.toUInt64 >>> ((1 : Int32).toInt64.toUInt64 &&& Int64.toUInt64 63)).toInt64) &&& 6148914691236517205)).toUInt64 >>> ((2 : Int32).toInt64.toUInt64 &&& Int64.toUInt64 63)).toInt64) &&& 3689348814741910323)) + (((((z26 - (((z26.toUInt64 >>> ((1 : Int32).toInt64.toUInt64 &&& Int64.toUInt64 63)).toInt64) &&& 6148914691236517205)) &&& 3689348814741910323) + ((((z26 - (((z26.toUInt64 >>> ((1 : Int32).toInt64.toUInt64 &&& Int64.toUInt64 63)).toInt64) &&& 6148914691236517205)).toUInt64 >>> ((2 : Int32).toInt64.toUInt64 &&& Int64.toUInt64 63)).toInt64) &&& 3689348814741910323)).toUInt64 >>> ((4 : Int32).toInt64.toUInt64 &&& Int64.toUInt64 63)).toInt64)) &&& 1085102592571150095) + (((((((z26 - (((z26.toUInt64 >>> ((1 : Int32).toInt64.toUInt64 &&& Int64.toUInt64 63)).toInt64) &&& 6148914691236517205)) &&& 3689348814741910323) + ((((z26 - (((z26.toUInt64 >>> ((1 : Int32).toInt64.toUInt64 &&& Int64.toUInt64 63)).toInt64) &&& 6148914691236517205)).toUInt64 >>> ((2 : Int32).toInt64.toUInt64 &&& Int64.toUInt64 63)).toInt64) &&& 3689348814741910323)) + (((((z26 - (((z26.toUInt64 >>> ((1 : Int32).toInt64.toUInt64 &&& Int64.toUInt64 63)).toInt64) &&& 6148914691236517205)) &&& 3689348814741910323) + ((((z26 - (((z26.toUInt64 >>> ((1 : Int32).toInt64.toUInt64 &&& Int64.toUInt64 63)).toInt64) &&& 6148914691236517205)).toUInt64 >>> ((2 : Int32).toInt64.toUInt64 &&& Int64.toUInt64 63)).toInt64) &&& 3689348814741910323)).toUInt64 >>> ((4 : Int32).toInt64.toUInt64 &&& Int64.toUInt64 63)).toInt64)) &&& 1085102592571150095).toUInt64 >>> ((8 : Int32).toInt64.toUInt64 &&& Int64.toUInt64 63)).toInt64)).toUInt64 >>> ((16 : Int32).toInt64.toUInt64 &&& Int64.toUInt64 63)).toInt64)) + (((((((((z26 - (((z26.toUInt64 >>> ((1 : Int32).toInt64.toUInt64 &&& Int64.toUInt64 63)).toInt64) &&& 6148914691236517205)) &&& 3689348814741910323) + ((((z26 - (((z26.toUInt64 >>> ((1 : Int32).toInt64.toUInt64 &&& Int64.toUInt64 63)).toInt64) &&& 6148914691236517205)).toUInt64 >>> ((2 : Int32).toInt64.toUInt64 &&& Int64.toUInt64 63)).toInt64) &&& 3689348814741910323)) + (((((z26 - (((z26.toUInt64 >>> ((1 : Int32).toInt64.toUInt64 &&& Int64.toUInt64 63)).toInt64) &&& 6148914691236517205)) &&& 3689348814741910323) + ((((z26 - (((z26.toUInt64 >>> ((1 : Int32).toInt64.toUInt64 &&& Int64.toUInt64 63)).toInt64) &&& 6148914691236517205)).toUInt64 >>> ((2 : Int32).toInt64.toUInt64 &&& Int64.toUInt64 63)).toInt64) &&& 3689348814741910323)).toUInt64 >>> ((4 : Int32).toInt64.toUInt64 &&& Int64.toUInt64 63)).toInt64)) &&& 1085102592571150095) + (((((((z26 - (((z26.toUInt64 >>> ((1 : Int32).toInt64.toUInt64 &&& Int64.toUInt64 63)).toInt64) &&& 6148914691236517205)) &&& 3689348814741910323) + ((((z26 - (((z26.toUInt64 >>> ((1 : Int32).toInt64.toUInt64 &&& Int64.toUInt64 63)).toInt64) &&& 6148914691236517205)).toUInt64 >>> ((2 : Int32).toInt64.toUInt64 &&& Int64.toUInt64 63)).toInt64) &&& 3689348814741910323)) + (((((z26 - (((z26.toUInt64 >>> ((1 : Int32).toInt64.toUInt64 &&& Int64.toUInt64 63)).toInt64) &&& 6148914691236517205)) &&& 3689348814741910323) + ((((z26 - (((z26.toUInt64 >>> ((1 : Int32).toInt64.toUInt64 &&& Int64.toUInt64 63)).toInt64) &&& 6148914691236517205)).toUInt64 >>> ((2 : Int32).toInt64.toUInt64 &&& Int64.toUInt64 63)).toInt64) &&& 3689348814741910323)).toUInt64 >>> ((4 : Int32).toInt64.toUInt64 &&& Int64.toUInt64 63)).toInt64)) &&& 1085102592571150095).toUInt64 >>> ((8 : Int32).toInt64.toUInt64 &&& Int64.toUInt64 63)).toInt64)) + ((((((((z26 - (((z26.toUInt64 >>> ((1 : Int32).toInt64.toUInt64 &&& Int64.toUInt64 63)).toInt64) &&& 6148914691236517205)) &&& 3689348814741910323) + ((((z26 - (((z26.toUInt64 >>> ((1 : Int32).toInt64.toUInt64 &&& Int64.toUInt64 63)).toInt64) &&& 6148914691236517205)).toUInt64 >>> ((2 : Int32).toInt64.toUInt64 &&& Int64.toUInt64 63)).toInt64) &&& 3689348814741910323)) + (((((z26 - (((z26.toUInt64 >>> ((1 : Int32).toInt64.toUInt64 &&& Int64.toUInt64 63)).toInt64) &&& 6148914691236517205)) &&& 3689348814741910323) + ((((z26 - (((z26.toUInt64 >>> ((1 : Int32).toInt64.toUInt64 &&& Int64.toUInt64 63)).toInt64) &&& 6148914691236517205)).toUInt64 >>> ((2 : Int32).toInt64.toUInt64 &&& Int64.toUInt64 63)).toInt64) &&& 3689348814741910323)).toUInt64 >>> ((4 : Int32).toInt64.toUInt64 &&& Int64.toUInt64 63)).toInt64)) &&& 1085102592571150095) + (((((((z26 - (((z26.toUInt64 >>> ((1 : Int32).toInt64.toUInt64 &&& Int64.toUInt64 63)).toInt64) &&& 6148914691236517205)) &&& 3689348814741910323) + ((((z26 - (((z26.toUInt64 >>> ((1 : Int32).toInt64.toUInt64 &&& Int64.toUInt64 63)).toInt64) &&& 6148914691236517205)).toUInt64 >>> ((2 : Int32).toInt64.toUInt64 &&& Int64.toUInt64 63)).toInt64) &&& 3689348814741910323)) + (((((z26 - (((z26.toUInt64 >>> ((1 : Int32).toInt64.toUInt64 &&& Int64.toUInt64 63)).toInt64) &&& 6148914691236517205)) &&& 3689348814741910323) + ((((z26 - (((z26.toUInt64 >>> ((1 : Int32).toInt64.toUInt64 &&& Int64.toUInt64 63)).toInt64) &&& 6148914691236517205)).toUInt64 >>> ((2 : Int32).toInt64.toUInt64 &&& Int64.toUInt64 63)).toInt64) &&& 3689348814741910323)).toUInt64 >>> ((4 : Int32).toInt64.toUInt64 &&& Int64.toUInt64 63)).toInt64)) &&& 1085102592571150095).toUInt64 >>> ((8 : Int32).toInt64.toUInt64 &&& Int64.toUInt64 63)).toInt64)).toUInt64 >>> ((16 : Int32).toInt64.toUInt64 &&& Int64.toUInt64 63)).toInt64)).toUInt64 >>> ((32 : Int32).toInt64.toUInt64 &&& Int64.toUInt64 63)).toInt64)).toInt32) &&& 127)) hx hb hr (fun t ht hW => ⟨⟨((((((((((z26 - (((z26.toUInt64 >>> ((1 : Int32).toInt64.toUInt64 &&& Int64.toUInt64 63)).toInt64) &&& 6148914691236517205)) &&& 3689348814741910323) + ((((z26 - (((z26.toUInt64 >>> ((1 : Int32).toInt64.toUInt64 &&& Int64.toUInt64 63)).toInt64) &&& 6148914691236517205)).toUInt64 >>> ((2 : Int32).toInt64.toUInt64 &&& Int64.toUInt64 63)).toInt64) &&& 3689348814741910323)) + (((((z26 - (((z26.toUInt64 >>> ((1 : Int32).toInt64.toUInt64 &&& Int64.toUInt64 63)).toInt64) &&& 6148914691236517205)) &&& 3689348814741910323) + ((((z26 - (((z26.toUInt64 >>> ((1 : Int32).toInt64.toUInt64 &&& Int64.toUInt64 63)).toInt64) &&& 6148914691236517205)).toUInt64 >>> ((2 : Int32).toInt64.toUInt64 &&& Int64.toUInt64 63)).toInt64) &&& 3689348814741910323)).toUInt64 >>> ((4 : Int32).toInt64.toUInt64 &&& Int64.toUInt64 63)).toInt64)) &&& 1085102592571150095) + (((((((z26 - (((z26.toUInt64 >>> ((1 : Int32).toInt64.toUInt64 &&& Int64.toUInt64 63)).toInt64) &&& 6148914691236517205)) &&& 3689348814741910323) + ((((z26 - (((z26.toUInt64 >>> ((1 : Int32).toInt64.toUInt64 &&& Int64.toUInt64 63)).toInt64) &&& 6148914691236517205)).toUInt64 >>> ((2 : Int32).toInt64.toUInt64 &&& Int64.toUInt64 63)).toInt64) &&& 3689348814741910323)) + (((((z26 - (((z26.toUInt64 >>> ((1 : Int32).toInt64.toUInt64 &&& Int64.toUInt64 63)).toInt64) &&& 6148914691236517205)) &&& 3689348814741910323) + ((((z26 - (((z26.toUInt64 >>> ((1 : Int32).toInt64.toUInt64 &&& Int64.toUInt64 63)).toInt64) &&& 6148914691236517205)).toUInt64 >>> ((2 : Int32).toInt64.toUInt64 &&& Int64.toUInt64 63)).toInt64) &&& 3689348814741910323)).toUInt64 >>> ((4 : Int32).toInt64.toUInt64 &&& Int64.toUInt64 63)).toInt64)) &&& 1085102592571150095).toUInt64 >>> ((8 : Int32).toInt64.toUInt64 &&& Int64.toUInt64 63)).toInt64)) + ((((((((z26 - (((z26.toUInt64 >>> ((1 : Int32).toInt64.toUInt64 &&& Int64.toUInt64 63)).toInt64) &&& 6148914691236517205)) &&& 3689348814741910323) + ((((z26 - (((z26.toUInt64 >>> ((1 : Int32).toInt64.toUInt64 &&& Int64.toUInt64 63)).toInt64) &&& 6148914691236517205)).toUInt64 >>> ((2 : Int32).toInt64.toUInt64 &&& Int64.toUInt64 63)).toInt64) &&& 3689348814741910323)) + (((((z26 - (((z26.toUInt64 >>> ((1 : Int32).toInt64.toUInt64 &&& Int64.toUInt64 63)).toInt64) &&& 6148914691236517205)) &&& 3689348814741910323) + ((((z26 - (((z26.toUInt64 >>> ((1 : Int32).toInt64.toUInt64 &&& Int64.toUInt64 63)).toInt64) &&& 6148914691236517205)).toUInt64 >>> ((2 : Int32).toInt64.toUInt64 &&& Int64.toUInt64 63)).toInt64) &&& 3689348814741910323)).toUInt64 >>> ((4 : Int32).toInt64.toUInt64 &&& Int64.toUInt64 63)).toInt64)) &&& 1085102592571150095) + (((((((z26 - (((z26.toUInt64 >>> ((1 : Int32).toInt64.toUInt64 &&& Int64.toUInt64 63)).toInt64) &&& 6148914691236517205)) &&& 3689348814741910323) + ((((z26 - (((z26.toUInt64 >>> ((1 : Int32).toInt64.toUInt64 &&& Int64.toUInt64 63)).toInt64) &&& 6148914691236517205)).toUInt64 >>> ((2 : Int32).toInt64.toUInt64 &&& Int64.toUInt64 63)).toInt64) &&& 3689348814741910323)) + (((((z26 - (((z26.toUInt64 >>> ((1 : Int32).toInt64.toUInt64 &&& Int64.toUInt64 63)).toInt64) &&& 6148914691236517205)) &&& 3689348814741910323) + ((((z26 - (((z26.toUInt64 >>> ((1 : Int32).toInt64.toUInt64 &&& Int64.toUInt64 63)).toInt64) &&& 6148914691236517205)).toUInt64 >>> ((2 : Int32).toInt64.toUInt64 &&& Int64.toUInt64 63)).toInt64) &&& 3689348814741910323)).toUInt64 >>> ((4 : Int32).toInt64.toUInt64 &&& Int64.toUInt64 63)).toInt64)) &&& 1085102592571150095).toUInt64 >>> ((8 : Int32).toInt64.toUInt64 &&& Int64.toUInt64 63)).toInt64)).toUInt64 >>> ((16 : Int32).toInt64.toUInt64 &&& Int64.toUInt64 63)).toInt64)) + (((((((((z26 - (((z26.toUInt64 >>> ((1 : Int32).toInt64.toUInt64 &&& Int64.toUInt64 63)).toInt64) &&& 6148914691236517205)) &&& 3689348814741910323) + ((((z26 - (((z26.toUInt64 >>> ((1 : Int32).toInt64.toUInt64 &&& Int64.toUInt64 63)).toInt64) &&& 6148914691236517205)).toUInt64 >>> ((2 : Int32).toInt64.toUInt64 &&& Int64.toUInt64 63)).toInt64) &&& 3689348814741910323)) + (((((z26 - (((z26.toUInt64 >>> ((1 : Int32).toInt64.toUInt64 &&& Int64.toUInt64 63)).toInt64) &&& 6148914691236517205)) &&& 3689348814741910323) + ((((z26 - (((z26.toUInt64 >>> ((1 : Int32).toInt64.toUInt64 &&& Int64.toUInt64 63)).toInt64) &&& 6148914691236517205)).toUInt64 >>> ((2 : Int32).toInt64.toUInt64 &&& Int64.toUInt64 63)).toInt64) &&& 3689348814741910323)).toUInt64 >>> ((4 : Int32).toInt64.toUInt64 &&& Int64.toUInt64 63)).toInt64)) &&& 1085102592571150095) + (((((((z26 - (((z26.toUInt64 >>> ((1 : Int32).toInt64.toUInt64 &&& Int64.toUInt64 63)).toInt64) &&& 6148914691236517205)) &&& 3689348814741910323) + ((((z26 - (((z26.toUInt64 >>> ((1 : Int32).toInt64.toUInt64 &&& Int64.toUInt64 63)).toInt64) &&& 6148914691236517205)).toUInt64 >>> ((2 : Int32).toInt64.toUInt64 &&& Int64.toUInt64 63)).toInt64) &&& 3689348814741910323)) + (((((z26 - (((z26.toUInt64 >>> ((1 : Int32).toInt64.toUInt64 &&& Int64.toUInt64 63)).toInt64) &&& 6148914691236517205)) &&& 3689348814741910323) + ((((z26 - (((z26.toUInt64 >>> ((1 : Int32).toInt64.toUInt64 &&& Int64.toUInt64 63)).toInt64) &&& 6148914691236517205)).toUInt64 >>> ((2 : Int32).toInt64.toUInt64 &&& Int64.toUInt64 63)).toInt64) &&& 3689348814741910323)).toUInt64 >>> ((4 : Int32).toInt64.toUInt64 &&& Int64.toUInt64 63)).toInt64)) &&& 1085102592571150095).toUInt64 >>> ((8 : Int32).toInt64.toUInt64 &&& Int64.toUInt64 63)).toInt64)) + ((((((((z26 - (((z26.toUInt64 >>> ((1 : Int32).toInt64.toUInt64 &&& Int64.toUInt64 63)).toInt64) &&& 6148914691236517205)) &&& 3689348814741910323) + ((((z26 - (((z26.toUInt64 >>> ((1 : Int32).toInt64.toUInt64 &&& Int64.toUInt64 63)).toInt64) &&& 6148914691236517205)).toUInt64 >>> ((2 : Int32).toInt64.toUInt64 &&& Int64.toUInt64 63)).toInt64) &&& 3689348814741910323)) + (((((z26 - (((z26.toUInt64 >>> ((1 : Int32).toInt64.toUInt64 &&& Int64.toUInt64 63)).toInt64) &&& 6148914691236517205)) &&& 3689348814741910323) + ((((z26 - (((z26.toUInt64 >>> ((1 : Int32).toInt64.toUInt64 &&& Int64.toUInt64 63)).toInt64) &&& 6148914691236517205)).toUInt64 >>> ((2 : Int32).toInt64.toUInt64 &&& Int64.toUInt64 63)).toInt64) &&& 3689348814741910323)).toUInt64 >>> ((4 : Int32).toInt64.toUInt64 &&& Int64.toUInt64 63)).toInt64)) &&& 1085102592571150095) + (((((((z26 - (((z26.toUInt64 >>> ((1 : Int32).toInt64.toUInt64 &&& Int64.toUInt64 63)).toInt64) &&& 6148914691236517205)) &&& 3689348814741910323) + ((((z26 - (((z26.toUInt64 >>> ((1 : Int32).toInt64.toUInt64 &&& Int64.toUInt64 63)).toInt64) &&& 6148914691236517205)).toUInt64 >>> ((2 : Int32).toInt64.toUInt64 &&& Int64.toUInt64 63)).toInt64) &&& 3689348814741910323)) + (((((z26 - (((z26.toUInt64 >>> ((1 : Int32).toInt64.toUInt64 &&& Int64.toUInt64 63)).toInt64) &&& 6148914691236517205)) &&& 3689348814741910323) + ((((z26 - (((z26.toUInt64 >>> ((1 : Int32).toInt64.toUInt64 &&& Int64.toUInt64 63)).toInt64) &&& 6148914691236517205)).toUInt64 >>> ((2 : Int32).toInt64.toUInt64 &&& Int64.toUInt64 63)).toInt64) &&& 3689348814741910323)).toUInt64 >>> ((4 : Int32).toInt64.toUInt64 &&& Int64.toUInt64 63)).toInt64)) &&& 1085102592571150095).toUInt64 >>> ((8 : Int32).toInt64.toUInt64 &&& Int64.toUInt64 63)).toInt64)).toUInt64 >>> ((16 : Int32).toInt64.toUInt64 &&& Int64.toUInt64 63)).toInt64)).toUInt64 >>> ((32 : Int32).toInt64.toUInt64 &&& Int64.toUInt64 63)).toInt64)).toInt32) &&& 127), [], rfl, Or.inr (Or.inr (Or.inr (Or.inr (Or.inr (Or.inr (Or.inr (Or.inr (⟨z26, i_4, i_5, i_12, i_13, i_20, i_21, i_25, i_28, rfl, rfl⟩)))))))), by rw [ht]; exact hP, hD⟩, hS.F ht⟩) hS.2.2 dX11_lit_44
            ·
              exact absurd c_24 (by decide)
theorem dX11_unseen_0 : decode cX11_unseen 0 = .ok (.iload_n 1, 1) := by decide +kernel
theorem dX11_unseen_1 : decode cX11_unseen 1 = .ok (.invokestatic 97, 3) := by decide +kernel
theorem dX11_unseen_4 : decode cX11_unseen 4 = .ok (.ifCond .ne 5, 3) := by decide +kernel
theorem dX11_unseen_7 : decode cX11_unseen 7 = .ok (.iconst (-1), 1) := by decide +kernel
theorem dX11_unseen_8 : decode cX11_unseen 8 = .ok (.ireturn, 1) := by decide +kernel
theorem dX11_unseen_9 : decode cX11_unseen 9 = .ok (.aload_n 0, 1) := by decide +kernel
theorem dX11_unseen_10 : decode cX11_unseen 10 = .ok (.getfield 38, 3) := by decide +kernel
theorem dX11_unseen_13 : decode cX11_unseen 13 = .ok (.invokevirtual 254, 3) := by decide +kernel
theorem dX11_unseen_16 : decode cX11_unseen 16 = .ok (.iconst 0, 1) := by decide +kernel
theorem dX11_unseen_17 : decode cX11_unseen 17 = .ok (.istore_n 2, 1) := by decide +kernel
theorem dX11_unseen_18 : decode cX11_unseen 18 = .ok (.iconst 0, 1) := by decide +kernel
theorem dX11_unseen_19 : decode cX11_unseen 19 = .ok (.istore_n 3, 1) := by decide +kernel
theorem dX11_unseen_20 : decode cX11_unseen 20 = .ok (.iload_n 3, 1) := by decide +kernel
theorem dX11_unseen_21 : decode cX11_unseen 21 = .ok (.bipush 24, 2) := by decide +kernel
theorem dX11_unseen_23 : decode cX11_unseen 23 = .ok (.if_icmp .ge 28, 3) := by decide +kernel
theorem dX11_unseen_26 : decode cX11_unseen 26 = .ok (.aload_n 0, 1) := by decide +kernel
theorem dX11_unseen_27 : decode cX11_unseen 27 = .ok (.getfield 38, 3) := by decide +kernel
theorem dX11_unseen_30 : decode cX11_unseen 30 = .ok (.getfield 257, 3) := by decide +kernel
theorem dX11_unseen_33 : decode cX11_unseen 33 = .ok (.iload_n 3, 1) := by decide +kernel
theorem dX11_unseen_34 : decode cX11_unseen 34 = .ok (.laload, 1) := by decide +kernel
theorem dX11_unseen_35 : decode cX11_unseen 35 = .ok (.iload_n 1, 1) := by decide +kernel
theorem dX11_unseen_36 : decode cX11_unseen 36 = .ok (.invokestatic 115, 3) := by decide +kernel
theorem dX11_unseen_39 : decode cX11_unseen 39 = .ok (.ifCond .ne 6, 3) := by decide +kernel
theorem dX11_unseen_42 : decode cX11_unseen 42 = .ok (.iinc 2 1, 3) := by decide +kernel
theorem dX11_unseen_45 : decode cX11_unseen 45 = .ok (.iinc 3 1, 3) := by decide +kernel
theorem dX11_unseen_48 : decode cX11_unseen 48 = .ok (.goto (-28), 3) := by decide +kernel
theorem dX11_unseen_51 : decode cX11_unseen 51 = .ok (.iload_n 2, 1) := by decide +kernel
theorem dX11_unseen_52 : decode cX11_unseen 52 = .ok (.ireturn, 1) := by decide +kernel
set_option maxHeartbeats 4000000 in
set_option maxRecDepth 100000 in
theorem kX11_unseen (l : Launch) (G : g5_G) (a0 a1 a2 a3 a4 a5 a6 a7 a8 a9 a10 a11 a12 a13 a14 a15 a16 a17 a18 a19 a20 a21 : Nat) (sz : Nat) (n0 : Int32) : Met l yX11_unseen (wsG yX11_unseen cX11_unseen 4 (some .int)) ({ frames := 2, cells := 0, slots := 0, locals := 48 }) (va_Pc [.ref a0, .int n0] (g5_P G [(a0, .inr (11, [.ref a1, .ref a2, .ref a3, .ref a4, .ref a5, .ref a6, .ref a7, .ref a8, .ref a9, .ref a10, .int 0, .int 0, .int (-1), .ref a11, .int 0, .ref a12, .int 0])), (a5, .inr (10, [.ref a1, .ref a4, .ref a13])), (a13, .inl (G.2 1, 24, .inr (.inl (fun _ => 0)))), (a1, .inr (1, [.long 0, .int 1000, .int (-1), .int (-1), .int 0, .ref a14, .ref a15, .ref a16, .ref a17, .ref a18, .ref a19, .long 0, .ref a20])), (a16, .inr (6, [.int 5, .int 24, .ref a21, .int 0]))] sz)) (va_Qi (fun (r : Int32) (u : va_W) => ((n0.toInt < 0) ∧ (r = (-1)) ∧ (u = [])) ∨ ((n0.toInt ≥ 0) ∧ (n0.toInt ≥ 64) ∧ (r = (-1)) ∧ (u = [])) ∨ ((n0.toInt ≥ 0) ∧ (n0.toInt < 64) ∧ (r = 24) ∧ (u = []))) (g5_B G (va_A [(a0, .inr (11, [.ref a1, .ref a2, .ref a3, .ref a4, .ref a5, .ref a6, .ref a7, .ref a8, .ref a9, .ref a10, .int 0, .int 0, .int (-1), .ref a11, .int 0, .ref a12, .int 0])), (a5, .inr (10, [.ref a1, .ref a4, .ref a13])), (a13, .inl (G.2 1, 24, .inr (.inl (fun _ => 0)))), (a1, .inr (1, [.long 0, .int 1000, .int (-1), .int (-1), .int 0, .ref a14, .ref a15, .ref a16, .ref a17, .ref a18, .ref a19, .long 0, .ref a20])), (a16, .inr (6, [.int 5, .int 24, .ref a21, .int 0]))] sz)) (va_A [(a0, .inr (11, [.ref a1, .ref a2, .ref a3, .ref a4, .ref a5, .ref a6, .ref a7, .ref a8, .ref a9, .ref a10, .int 0, .int 0, .int (-1), .ref a11, .int 0, .ref a12, .int 0])), (a5, .inr (10, [.ref a1, .ref a4, .ref a13])), (a13, .inl (G.2 1, 24, .inr (.inl (fun _ => 0)))), (a1, .inr (1, [.long 0, .int 1000, .int (-1), .int (-1), .int 0, .ref a14, .ref a15, .ref a16, .ref a17, .ref a18, .ref a19, .long 0, .ref a20])), (a16, .inr (6, [.int 5, .int 24, .ref a21, .int 0]))] sz)) 0 0 (va_A [(a0, .inr (11, [.ref a1, .ref a2, .ref a3, .ref a4, .ref a5, .ref a6, .ref a7, .ref a8, .ref a9, .ref a10, .int 0, .int 0, .int (-1), .ref a11, .int 0, .ref a12, .int 0])), (a5, .inr (10, [.ref a1, .ref a4, .ref a13])), (a13, .inl (G.2 1, 24, .inr (.inl (fun _ => 0)))), (a1, .inr (1, [.long 0, .int 1000, .int (-1), .int (-1), .int 0, .ref a14, .ref a15, .ref a16, .ref a17, .ref a18, .ref a19, .long 0, .ref a20])), (a16, .inr (6, [.int 5, .int 24, .ref a21, .int 0]))] sz) := by
  refine Met.ofW (cc := cX11_unseen) (maxL := 4) (ret := (some .int)) (by decide) rfl ?_
  intro p e s m args below meth c s₁ B hml hv
  obtain ⟨rfl, hsz, hP, hK, hD0, hN, hT⟩ := hv
  have hx := B.exec
  have hb := B.bytes
  have hr := B.returns
  have hts : ∀ w ∈ tblG, w.before _ s = true := fun w h => atoms_spec (ws := (wsG yX11_unseen cX11_unseen 4 (some .int))) B.pre w (List.mem_cons_of_mem _ h)
  have hown : s.vm.findClass RX11 = some m.cls := findClass_of_methodNamed B.named
  have hlocks := B.notSynchronized
  subst hsz
  have hD := hD0.self (sz := s.heap.size)
  generalize hAe : va_A [(a0, .inr (11, [.ref a1, .ref a2, .ref a3, .ref a4, .ref a5, .ref a6, .ref a7, .ref a8, .ref a9, .ref a10, .int 0, .int 0, .int (-1), .ref a11, .int 0, .ref a12, .int 0])), (a5, .inr (10, [.ref a1, .ref a4, .ref a13])), (a13, .inl (G.2 1, 24, .inr (.inl (fun _ => 0)))), (a1, .inr (1, [.long 0, .int 1000, .int (-1), .int (-1), .int 0, .ref a14, .ref a15, .ref a16, .ref a17, .ref a18, .ref a19, .long 0, .ref a20])), (a16, .inr (6, [.int 5, .int 24, .ref a21, .int 0]))] s.heap.size = A at hD hT ⊢
  have hA : ∀ q : Nat, s.heap.size ≤ q → A q := fun q h => by rw [← hAe]; exact Or.inr h
  have hS : va_S A s.heap s.heap [] := va_S.rf
  have hP : va_P G.1 vwCl [(a0, .inr (11, [.ref a1, .ref a2, .ref a3, .ref a4, .ref a5, .ref a6, .ref a7, .ref a8, .ref a9, .ref a10, .int 0, .int 0, .int (-1), .ref a11, .int 0, .ref a12, .int 0])), (a5, .inr (10, [.ref a1, .ref a4, .ref a13])), (a13, .inl (G.2 1, 24, .inr (.inl (fun _ => 0)))), (a1, .inr (1, [.long 0, .int 1000, .int (-1), .int (-1), .int 0, .ref a14, .ref a15, .ref a16, .ref a17, .ref a18, .ref a19, .long 0, .ref a20])), (a16, .inr (6, [.int 5, .int 24, .ref a21, .int 0]))] s.heap := hP
  have hl := lv_entry ([.ref a0, .int n0]) (n := 4) (Nat.le_of_ble_eq_true rfl)
  rw [lg_entry_eq]
  generalize (lg_sl ([.ref a0, .int n0]) ++ List.replicate (4 - (lg_sl ([.ref a0, .int n0])).length) Slot.unset).toArray = ls at hl ⊢
  have hl : lv_has ls 4 [(0, .ref a0), (1, .int n0)] := hl
  refine lv_iload_n hx hb dX11_unseen_0 rfl (lv_at hl 1 rfl) ?_
  have hPc := hP.sub (ws' := []) [] rfl
  have hDc := hD.sub (ws' := []) [] (by decide) rfl
  have hFc := va_free (wc := []) hD hS hA [] rfl
  refine va_calli (va_runS (As := [.int n0]) (rest := []) ⟨hx, hb, hml, hown, hts⟩ (kX11_isCell_2 l G s.heap.size n0) (va_cwS 1 hts gS_X11_97 rfl rfl rfl hs_X11_isCell ⟨Nat.le_of_ble_eq_true rfl, Nat.le_of_ble_eq_true rfl⟩) (g5_preS hPc hK hDc hN hT hS hFc) rfl rfl hl.1 rfl (lv_room (Nat.le_of_ble_eq_true rfl)) dX11_unseen_1 ⟨Nat.le_of_ble_eq_true rfl, Nat.le_of_ble_eq_true rfl⟩) hS (fun q _ h => hFc q h) hFc (fun r u t H1 locs ht hvm hw hB hz1 hk1 hS => ?_)
  obtain ⟨hP1, hD1⟩ := hB
  rw [ht] at hP1
  rcases hw with ⟨i_1, rfl, rfl⟩ | ⟨i_2, i_3, rfl, rfl⟩ | ⟨i_4, i_5, rfl, rfl⟩
  ·
    have hP := g5_same hP hk1
    generalize H1 = H at hP hS ⊢
    refine lv_if_ne (tgt := 9) hx hb dX11_unseen_4 (by decide) (fun c_6 => ?_) (fun c_6 => ?_)
    ·
      exact absurd c_6 (by decide)
    ·
      refine lv_iconst (v := (-1)) hx hb dX11_unseen_7 (by decide) ?_
      have hP := hP.sub (ws' := []) [] rfl
      have hD := hD.sub (ws' := []) [] (by decide) rfl
      exact W.iret (v := (-1)) hx hb hr (fun t ht hW => ⟨⟨(-1), [], rfl, Or.inl (⟨i_1, rfl, rfl⟩), by rw [ht]; exact hP, hD⟩, hS.F ht⟩) hS.2.2 dX11_unseen_8
  ·
    have hP := g5_same hP hk1
    generalize H1 = H at hP hS ⊢
    refine lv_if_ne (tgt := 9) hx hb dX11_unseen_4 (by decide) (fun c_7 => ?_) (fun c_7 => ?_)
    ·
      exact absurd c_7 (by decide)
    ·
      refine lv_iconst (v := (-1)) hx hb dX11_unseen_7 (by decide) ?_
      have hP := hP.sub (ws' := []) [] rfl
      have hD := hD.sub (ws' := []) [] (by decide) rfl
      exact W.iret (v := (-1)) hx hb hr (fun t ht hW => ⟨⟨(-1), [], rfl, Or.inr (Or.inl (⟨i_2, i_3, rfl, rfl⟩)), by rw [ht]; exact hP, hD⟩, hS.F ht⟩) hS.2.2 dX11_unseen_8
  ·
    have hP := g5_same hP hk1
    generalize H1 = H at hP hS ⊢
    refine lv_if_ne (tgt := 9) hx hb dX11_unseen_4 (by decide) (fun c_8 => ?_) (fun c_8 => ?_)
    ·
      refine lv_aload_n hx hb dX11_unseen_9 rfl (lv_at hl 0 rfl) ?_
      refine va_get (D := G.1) (ci := 11) (v := .ref a5) (C := RX11) (T := TX11) (N := 17) hx hb hts inG_X11 hown hK hP 0 rfl rfl 4 (by decide) (hts _ fl_X11_38) (fun _ h9 => h9) rfl dX11_unseen_10 ?_
      have hPc := hP.sub (ws' := [(a5, .inr (10, [.ref a1, .ref a4, .ref a13])), (a13, .inl (G.2 1, 24, .inr (.inl (fun _ => 0)))), (a1, .inr (1, [.long 0, .int 1000, .int (-1), .int (-1), .int 0, .ref a14, .ref a15, .ref a16, .ref a17, .ref a18, .ref a19, .long 0, .ref a20])), (a16, .inr (6, [.int 5, .int 24, .ref a21, .int 0]))]) [1, 2, 3, 4] rfl
      have hDc := hD.sub (ws' := [(a5, .inr (10, [.ref a1, .ref a4, .ref a13])), (a13, .inl (G.2 1, 24, .inr (.inl (fun _ => 0)))), (a1, .inr (1, [.long 0, .int 1000, .int (-1), .int (-1), .int 0, .ref a14, .ref a15, .ref a16, .ref a17, .ref a18, .ref a19, .long 0, .ref a20])), (a16, .inr (6, [.int 5, .int 24, .ref a21, .int 0]))]) [1, 2, 3, 4] (by decide) rfl
      have hFc := va_free (wc := [(a5, .inr (10, [.ref a1, .ref a4, .ref a13])), (a13, .inl (G.2 1, 24, .inr (.inl (fun _ => 0)))), (a1, .inr (1, [.long 0, .int 1000, .int (-1), .int (-1), .int 0, .ref a14, .ref a15, .ref a16, .ref a17, .ref a18, .ref a19, .long 0, .ref a20])), (a16, .inr (6, [.int 5, .int 24, .ref a21, .int 0]))]) hD hS hA [1, 2, 3, 4] rfl
      refine va_callv (va_runV (As := []) (rest := []) ⟨hx, hb, hml, hown, hts⟩ (kX10_lookAround l G a5 a1 a4 a13 a14 a15 a16 a17 a18 a19 a20 a21 H.size) (cwV 0 hts gV_X11_254 rfl rfl rfl hv_X10_lookAround ⟨Nat.le_of_ble_eq_true rfl, Nat.le_of_ble_eq_true rfl⟩) (g5_preV hPc hK hDc hN hT hS hFc (ci := 10) (q0 := 0) rfl rfl) rfl rfl hl.1 rfl (lv_room (Nat.le_of_ble_eq_true rfl)) dX11_unseen_13 ⟨Nat.le_of_ble_eq_true rfl, Nat.le_of_ble_eq_true rfl⟩) hS (fun q _ h => hFc q h) hFc (fun u t H1 locs ht hvm hw hB hz1 hk1 hS => ?_)
      obtain ⟨hP1, hD1⟩ := hB
      rw [ht] at hP1
      obtain rfl := hw
      obtain ⟨hP, hD⟩ := va_join (wr := [(a0, .inr (11, [.ref a1, .ref a2, .ref a3, .ref a4, .ref a5, .ref a6, .ref a7, .ref a8, .ref a9, .ref a10, .int 0, .int 0, .int (-1), .ref a11, .int 0, .ref a12, .int 0]))]) (w1 := [(a5, .inr (10, [.ref a1, .ref a4, .ref a13])), (a1, .inr (1, [.long 0, .int 1000, .int (-1), .int (-1), .int 0, .ref a14, .ref a15, .ref a16, .ref a17, .ref a18, .ref a19, .long 0, .ref a20])), (a16, .inr (6, [.int 5, .int 24, .ref a21, .int 0])), (a13, .inl (G.2 1, 24, .inr (.inl (fun _ => 0))))]) hP hD [1, 2, 3, 4] [0] rfl rfl (by decide) (by decide) hk1 hFc hP1 hD1
      generalize H1 = H at hP hS ⊢
      have hP : va_P G.1 vwCl [(a0, .inr (11, [.ref a1, .ref a2, .ref a3, .ref a4, .ref a5, .ref a6, .ref a7, .ref a8, .ref a9, .ref a10, .int 0, .int 0, .int (-1), .ref a11, .int 0, .ref a12, .int 0])), (a5, .inr (10, [.ref a1, .ref a4, .ref a13])), (a1, .inr (1, [.long 0, .int 1000, .int (-1), .int (-1), .int 0, .ref a14, .ref a15, .ref a16, .ref a17, .ref a18, .ref a19, .long 0, .ref a20])), (a16, .inr (6, [.int 5, .int 24, .ref a21, .int 0])), (a13, .inl (G.2 1, 24, .inr (.inl (fun _ => 0))))] H := hP
      have hD : va_D A [(a0, .inr (11, [.ref a1, .ref a2, .ref a3, .ref a4, .ref a5, .ref a6, .ref a7, .ref a8, .ref a9, .ref a10, .int 0, .int 0, .int (-1), .ref a11, .int 0, .ref a12, .int 0])), (a5, .inr (10, [.ref a1, .ref a4, .ref a13])), (a1, .inr (1, [.long 0, .int 1000, .int (-1), .int (-1), .int 0, .ref a14, .ref a15, .ref a16, .ref a17, .ref a18, .ref a19, .long 0, .ref a20])), (a16, .inr (6, [.int 5, .int 24, .ref a21, .int 0])), (a13, .inl (G.2 1, 24, .inr (.inl (fun _ => 0))))] := hD
      refine lv_iconst (v := 0) hx hb dX11_unseen_16 (by decide) ?_
      refine lv_istore_n (lv' := [(2, .int 0), (0, .ref a0), (1, .int n0)]) hx hb dX11_unseen_17 rfl hl (by decide) rfl (fun ls hl => ?_)
      refine lv_iconst (v := 0) hx hb dX11_unseen_18 (by decide) ?_
      refine lv_istore_n (lv' := [(3, .int 0), (2, .int 0), (0, .ref a0), (1, .int n0)]) hx hb dX11_unseen_19 rfl hl (by decide) rfl (fun ls hl => ?_)
      refine lv_iload_n hx hb dX11_unseen_20 rfl (lv_at hl 0 rfl) ?_
      refine lv_bipush (v := 24) hx hb dX11_unseen_21 (by decide) ?_
      refine lv_icmp_ge (tgt := 51) hx hb dX11_unseen_23 (by decide) (fun c_9 => ?_) (fun c_9 => ?_)
      ·
        exact absurd c_9 (by decide)
      ·
        refine lv_aload_n hx hb dX11_unseen_26 rfl (lv_at hl 2 rfl) ?_
        refine va_get (D := G.1) (ci := 11) (v := .ref a5) (C := RX11) (T := TX11) (N := 17) hx hb hts inG_X11 hown hK hP 0 rfl rfl 4 (by decide) (hts _ fl_X11_38) (fun _ h9 => h9) rfl dX11_unseen_27 ?_
        refine va_get (D := G.1) (ci := 10) (v := .ref a13) (C := RX10) (T := TX10) (N := 3) hx hb hts inG_X10 hown hK hP 1 rfl rfl 2 (by decide) (hts _ fl_X11_257) (fun _ h9 => h9) rfl dX11_unseen_30 ?_
        refine lv_iload_n hx hb dX11_unseen_33 rfl (lv_at hl 0 rfl) ?_
        refine va_lald hx hb hK hP 4 1 rfl rfl (i := 0) (by unfold vp_in; decide) dX11_unseen_34 ?_
        refine g5_tl (v := 0) rfl ?_
        refine lv_iload_n hx hb dX11_unseen_35 rfl (lv_at hl 3 rfl) ?_
        have hPc := hP.sub (ws' := []) [] rfl
        have hDc := hD.sub (ws' := []) [] (by decide) rfl
        have hFc := va_free (wc := []) hD hS hA [] rfl
        refine va_calli (va_runS (As := [.long 0, .int n0]) (rest := []) ⟨hx, hb, hml, hown, hts⟩ (kX11_isOn_5 l G H.size n0 ⟨by omega, by omega⟩) (va_cwS 2 hts gS_X11_115 rfl rfl rfl hs_X11_isOn ⟨Nat.le_of_ble_eq_true rfl, Nat.le_of_ble_eq_true rfl⟩) (g5_preS hPc hK hDc hN hT hS hFc) rfl rfl hl.1 rfl (lv_room (Nat.le_of_ble_eq_true rfl)) dX11_unseen_36 ⟨Nat.le_of_ble_eq_true rfl, Nat.le_of_ble_eq_true rfl⟩) hS (fun q _ h => hFc q h) hFc (fun r u t H1 locs ht hvm hw hB hz1 hk1 hS => ?_)
        obtain ⟨hP1, hD1⟩ := hB
        rw [ht] at hP1
        obtain ⟨rfl, rfl⟩ := hw
        have hP := g5_same hP hk1
        generalize H1 = H at hP hS ⊢
        refine lv_if_ne (tgt := 45) hx hb dX11_unseen_39 (by decide) (fun c_10 => ?_) (fun c_10 => ?_)
        ·
          exact absurd c_10 (by decide)
        ·
          refine lv_iinc (v := 1) (lv' := [(2, .int 1), (3, .int 0), (0, .ref a0), (1, .int n0)]) hx hb dX11_unseen_42 hl (k := 1) rfl (by decide) (by decide) rfl (fun ls hl => ?_)
          refine lv_iinc (v := 1) (lv' := [(3, .int 1), (2, .int 1), (0, .ref a0), (1, .int n0)]) hx hb dX11_unseen_45 hl (k := 1) rfl (by decide) (by decide) rfl (fun ls hl => ?_)
          refine lv_goto (tgt := 20) hx hb dX11_unseen_48 (by decide) ?_
          refine lv_iload_n hx hb dX11_unseen_20 rfl (lv_at hl 0 rfl) ?_
          refine lv_bipush (v := 24) hx hb dX11_unseen_21 (by decide) ?_
          refine lv_icmp_ge (tgt := 51) hx hb dX11_unseen_23 (by decide) (fun c_11 => ?_) (fun c_11 => ?_)
          ·
            exact absurd c_11 (by decide)
          ·
            refine lv_aload_n hx hb dX11_unseen_26 rfl (lv_at hl 2 rfl) ?_
            refine va_get (D := G.1) (ci := 11) (v := .ref a5) (C := RX11) (T := TX11) (N := 17) hx hb hts inG_X11 hown hK hP 0 rfl rfl 4 (by decide) (hts _ fl_X11_38) (fun _ h9 => h9) rfl dX11_unseen_27 ?_
            refine va_get (D := G.1) (ci := 10) (v := .ref a13) (C := RX10) (T := TX10) (N := 3) hx hb hts inG_X10 hown hK hP 1 rfl rfl 2 (by decide) (hts _ fl_X11_257) (fun _ h9 => h9) rfl dX11_unseen_30 ?_
            refine lv_iload_n hx hb dX11_unseen_33 rfl (lv_at hl 0 rfl) ?_
            refine va_lald hx hb hK hP 4 1 rfl rfl (i := 1) (by unfold vp_in; decide) dX11_unseen_34 ?_
            refine g5_tl (v := 0) rfl ?_
            refine lv_iload_n hx hb dX11_unseen_35 rfl (lv_at hl 3 rfl) ?_
            have hPc := hP.sub (ws' := []) [] rfl
            have hDc := hD.sub (ws' := []) [] (by decide) rfl
            have hFc := va_free (wc := []) hD hS hA [] rfl
            refine va_calli (va_runS (As := [.long 0, .int n0]) (rest := []) ⟨hx, hb, hml, hown, hts⟩ (kX11_isOn_5 l G H.size n0 ⟨by omega, by omega⟩) (va_cwS 2 hts gS_X11_115 rfl rfl rfl hs_X11_isOn ⟨Nat.le_of_ble_eq_true rfl, Nat.le_of_ble_eq_true rfl⟩) (g5_preS hPc hK hDc hN hT hS hFc) rfl rfl hl.1 rfl (lv_room (Nat.le_of_ble_eq_true rfl)) dX11_unseen_36 ⟨Nat.le_of_ble_eq_true rfl, Nat.le_of_ble_eq_true rfl⟩) hS (fun q _ h => hFc q h) hFc (fun r u t H1 locs ht hvm hw hB hz1 hk1 hS => ?_)
            obtain ⟨hP1, hD1⟩ := hB
            rw [ht] at hP1
            obtain ⟨rfl, rfl⟩ := hw
            have hP := g5_same hP hk1
            generalize H1 = H at hP hS ⊢
            refine lv_if_ne (tgt := 45) hx hb dX11_unseen_39 (by decide) (fun c_12 => ?_) (fun c_12 => ?_)
            ·
              exact absurd c_12 (by decide)
            ·
              refine lv_iinc (v := 2) (lv' := [(2, .int 2), (3, .int 1), (0, .ref a0), (1, .int n0)]) hx hb dX11_unseen_42 hl (k := 1) rfl (by decide) (by decide) rfl (fun ls hl => ?_)
              refine lv_iinc (v := 2) (lv' := [(3, .int 2), (2, .int 2), (0, .ref a0), (1, .int n0)]) hx hb dX11_unseen_45 hl (k := 1) rfl (by decide) (by decide) rfl (fun ls hl => ?_)
              refine lv_goto (tgt := 20) hx hb dX11_unseen_48 (by decide) ?_
              refine lv_iload_n hx hb dX11_unseen_20 rfl (lv_at hl 0 rfl) ?_
              refine lv_bipush (v := 24) hx hb dX11_unseen_21 (by decide) ?_
              refine lv_icmp_ge (tgt := 51) hx hb dX11_unseen_23 (by decide) (fun c_13 => ?_) (fun c_13 => ?_)
              ·
                exact absurd c_13 (by decide)
              ·
                refine lv_aload_n hx hb dX11_unseen_26 rfl (lv_at hl 2 rfl) ?_
                refine va_get (D := G.1) (ci := 11) (v := .ref a5) (C := RX11) (T := TX11) (N := 17) hx hb hts inG_X11 hown hK hP 0 rfl rfl 4 (by decide) (hts _ fl_X11_38) (fun _ h9 => h9) rfl dX11_unseen_27 ?_
                refine va_get (D := G.1) (ci := 10) (v := .ref a13) (C := RX10) (T := TX10) (N := 3) hx hb hts inG_X10 hown hK hP 1 rfl rfl 2 (by decide) (hts _ fl_X11_257) (fun _ h9 => h9) rfl dX11_unseen_30 ?_
                refine lv_iload_n hx hb dX11_unseen_33 rfl (lv_at hl 0 rfl) ?_
                refine va_lald hx hb hK hP 4 1 rfl rfl (i := 2) (by unfold vp_in; decide) dX11_unseen_34 ?_
                refine g5_tl (v := 0) rfl ?_
                refine lv_iload_n hx hb dX11_unseen_35 rfl (lv_at hl 3 rfl) ?_
                have hPc := hP.sub (ws' := []) [] rfl
                have hDc := hD.sub (ws' := []) [] (by decide) rfl
                have hFc := va_free (wc := []) hD hS hA [] rfl
                refine va_calli (va_runS (As := [.long 0, .int n0]) (rest := []) ⟨hx, hb, hml, hown, hts⟩ (kX11_isOn_5 l G H.size n0 ⟨by omega, by omega⟩) (va_cwS 2 hts gS_X11_115 rfl rfl rfl hs_X11_isOn ⟨Nat.le_of_ble_eq_true rfl, Nat.le_of_ble_eq_true rfl⟩) (g5_preS hPc hK hDc hN hT hS hFc) rfl rfl hl.1 rfl (lv_room (Nat.le_of_ble_eq_true rfl)) dX11_unseen_36 ⟨Nat.le_of_ble_eq_true rfl, Nat.le_of_ble_eq_true rfl⟩) hS (fun q _ h => hFc q h) hFc (fun r u t H1 locs ht hvm hw hB hz1 hk1 hS => ?_)
                obtain ⟨hP1, hD1⟩ := hB
                rw [ht] at hP1
                obtain ⟨rfl, rfl⟩ := hw
                have hP := g5_same hP hk1
                generalize H1 = H at hP hS ⊢
                refine lv_if_ne (tgt := 45) hx hb dX11_unseen_39 (by decide) (fun c_14 => ?_) (fun c_14 => ?_)
                ·
                  exact absurd c_14 (by decide)
                ·
                  refine lv_iinc (v := 3) (lv' := [(2, .int 3), (3, .int 2), (0, .ref a0), (1, .int n0)]) hx hb dX11_unseen_42 hl (k := 1) rfl (by decide) (by decide) rfl (fun ls hl => ?_)
                  refine lv_iinc (v := 3) (lv' := [(3, .int 3), (2, .int 3), (0, .ref a0), (1, .int n0)]) hx hb dX11_unseen_45 hl (k := 1) rfl (by decide) (by decide) rfl (fun ls hl => ?_)
                  refine lv_goto (tgt := 20) hx hb dX11_unseen_48 (by decide) ?_
                  refine lv_iload_n hx hb dX11_unseen_20 rfl (lv_at hl 0 rfl) ?_
                  refine lv_bipush (v := 24) hx hb dX11_unseen_21 (by decide) ?_
                  refine lv_icmp_ge (tgt := 51) hx hb dX11_unseen_23 (by decide) (fun c_15 => ?_) (fun c_15 => ?_)
                  ·
                    exact absurd c_15 (by decide)
                  ·
                    refine lv_aload_n hx hb dX11_unseen_26 rfl (lv_at hl 2 rfl) ?_
                    refine va_get (D := G.1) (ci := 11) (v := .ref a5) (C := RX11) (T := TX11) (N := 17) hx hb hts inG_X11 hown hK hP 0 rfl rfl 4 (by decide) (hts _ fl_X11_38) (fun _ h9 => h9) rfl dX11_unseen_27 ?_
                    refine va_get (D := G.1) (ci := 10) (v := .ref a13) (C := RX10) (T := TX10) (N := 3) hx hb hts inG_X10 hown hK hP 1 rfl rfl 2 (by decide) (hts _ fl_X11_257) (fun _ h9 => h9) rfl dX11_unseen_30 ?_
                    refine lv_iload_n hx hb dX11_unseen_33 rfl (lv_at hl 0 rfl) ?_
                    refine va_lald hx hb hK hP 4 1 rfl rfl (i := 3) (by unfold vp_in; decide) dX11_unseen_34 ?_
                    refine g5_tl (v := 0) rfl ?_
                    refine lv_iload_n hx hb dX11_unseen_35 rfl (lv_at hl 3 rfl) ?_
                    have hPc := hP.sub (ws' := []) [] rfl
                    have hDc := hD.sub (ws' := []) [] (by decide) rfl
                    have hFc := va_free (wc := []) hD hS hA [] rfl
                    refine va_calli (va_runS (As := [.long 0, .int n0]) (rest := []) ⟨hx, hb, hml, hown, hts⟩ (kX11_isOn_5 l G H.size n0 ⟨by omega, by omega⟩) (va_cwS 2 hts gS_X11_115 rfl rfl rfl hs_X11_isOn ⟨Nat.le_of_ble_eq_true rfl, Nat.le_of_ble_eq_true rfl⟩) (g5_preS hPc hK hDc hN hT hS hFc) rfl rfl hl.1 rfl (lv_room (Nat.le_of_ble_eq_true rfl)) dX11_unseen_36 ⟨Nat.le_of_ble_eq_true rfl, Nat.le_of_ble_eq_true rfl⟩) hS (fun q _ h => hFc q h) hFc (fun r u t H1 locs ht hvm hw hB hz1 hk1 hS => ?_)
                    obtain ⟨hP1, hD1⟩ := hB
                    rw [ht] at hP1
                    obtain ⟨rfl, rfl⟩ := hw
                    have hP := g5_same hP hk1
                    generalize H1 = H at hP hS ⊢
                    refine lv_if_ne (tgt := 45) hx hb dX11_unseen_39 (by decide) (fun c_16 => ?_) (fun c_16 => ?_)
                    ·
                      exact absurd c_16 (by decide)
                    ·
                      refine lv_iinc (v := 4) (lv' := [(2, .int 4), (3, .int 3), (0, .ref a0), (1, .int n0)]) hx hb dX11_unseen_42 hl (k := 1) rfl (by decide) (by decide) rfl (fun ls hl => ?_)
                      refine lv_iinc (v := 4) (lv' := [(3, .int 4), (2, .int 4), (0, .ref a0), (1, .int n0)]) hx hb dX11_unseen_45 hl (k := 1) rfl (by decide) (by decide) rfl (fun ls hl => ?_)
                      refine lv_goto (tgt := 20) hx hb dX11_unseen_48 (by decide) ?_
                      refine lv_iload_n hx hb dX11_unseen_20 rfl (lv_at hl 0 rfl) ?_
                      refine lv_bipush (v := 24) hx hb dX11_unseen_21 (by decide) ?_
                      refine lv_icmp_ge (tgt := 51) hx hb dX11_unseen_23 (by decide) (fun c_17 => ?_) (fun c_17 => ?_)
                      ·
                        exact absurd c_17 (by decide)
                      ·
                        refine lv_aload_n hx hb dX11_unseen_26 rfl (lv_at hl 2 rfl) ?_
                        refine va_get (D := G.1) (ci := 11) (v := .ref a5) (C := RX11) (T := TX11) (N := 17) hx hb hts inG_X11 hown hK hP 0 rfl rfl 4 (by decide) (hts _ fl_X11_38) (fun _ h9 => h9) rfl dX11_unseen_27 ?_
                        refine va_get (D := G.1) (ci := 10) (v := .ref a13) (C := RX10) (T := TX10) (N := 3) hx hb hts inG_X10 hown hK hP 1 rfl rfl 2 (by decide) (hts _ fl_X11_257) (fun _ h9 => h9) rfl dX11_unseen_30 ?_
                        refine lv_iload_n hx hb dX11_unseen_33 rfl (lv_at hl 0 rfl) ?_
                        refine va_lald hx hb hK hP 4 1 rfl rfl (i := 4) (by unfold vp_in; decide) dX11_unseen_34 ?_
                        refine g5_tl (v := 0) rfl ?_
                        refine lv_iload_n hx hb dX11_unseen_35 rfl (lv_at hl 3 rfl) ?_
                        have hPc := hP.sub (ws' := []) [] rfl
                        have hDc := hD.sub (ws' := []) [] (by decide) rfl
                        have hFc := va_free (wc := []) hD hS hA [] rfl
                        refine va_calli (va_runS (As := [.long 0, .int n0]) (rest := []) ⟨hx, hb, hml, hown, hts⟩ (kX11_isOn_5 l G H.size n0 ⟨by omega, by omega⟩) (va_cwS 2 hts gS_X11_115 rfl rfl rfl hs_X11_isOn ⟨Nat.le_of_ble_eq_true rfl, Nat.le_of_ble_eq_true rfl⟩) (g5_preS hPc hK hDc hN hT hS hFc) rfl rfl hl.1 rfl (lv_room (Nat.le_of_ble_eq_true rfl)) dX11_unseen_36 ⟨Nat.le_of_ble_eq_true rfl, Nat.le_of_ble_eq_true rfl⟩) hS (fun q _ h => hFc q h) hFc (fun r u t H1 locs ht hvm hw hB hz1 hk1 hS => ?_)
                        obtain ⟨hP1, hD1⟩ := hB
                        rw [ht] at hP1
                        obtain ⟨rfl, rfl⟩ := hw
                        have hP := g5_same hP hk1
                        generalize H1 = H at hP hS ⊢
                        refine lv_if_ne (tgt := 45) hx hb dX11_unseen_39 (by decide) (fun c_18 => ?_) (fun c_18 => ?_)
                        ·
                          exact absurd c_18 (by decide)
                        ·
                          refine lv_iinc (v := 5) (lv' := [(2, .int 5), (3, .int 4), (0, .ref a0), (1, .int n0)]) hx hb dX11_unseen_42 hl (k := 1) rfl (by decide) (by decide) rfl (fun ls hl => ?_)
                          refine lv_iinc (v := 5) (lv' := [(3, .int 5), (2, .int 5), (0, .ref a0), (1, .int n0)]) hx hb dX11_unseen_45 hl (k := 1) rfl (by decide) (by decide) rfl (fun ls hl => ?_)
                          refine lv_goto (tgt := 20) hx hb dX11_unseen_48 (by decide) ?_
                          refine lv_iload_n hx hb dX11_unseen_20 rfl (lv_at hl 0 rfl) ?_
                          refine lv_bipush (v := 24) hx hb dX11_unseen_21 (by decide) ?_
                          refine lv_icmp_ge (tgt := 51) hx hb dX11_unseen_23 (by decide) (fun c_19 => ?_) (fun c_19 => ?_)
                          ·
                            exact absurd c_19 (by decide)
                          ·
                            refine lv_aload_n hx hb dX11_unseen_26 rfl (lv_at hl 2 rfl) ?_
                            refine va_get (D := G.1) (ci := 11) (v := .ref a5) (C := RX11) (T := TX11) (N := 17) hx hb hts inG_X11 hown hK hP 0 rfl rfl 4 (by decide) (hts _ fl_X11_38) (fun _ h9 => h9) rfl dX11_unseen_27 ?_
                            refine va_get (D := G.1) (ci := 10) (v := .ref a13) (C := RX10) (T := TX10) (N := 3) hx hb hts inG_X10 hown hK hP 1 rfl rfl 2 (by decide) (hts _ fl_X11_257) (fun _ h9 => h9) rfl dX11_unseen_30 ?_
                            refine lv_iload_n hx hb dX11_unseen_33 rfl (lv_at hl 0 rfl) ?_
                            refine va_lald hx hb hK hP 4 1 rfl rfl (i := 5) (by unfold vp_in; decide) dX11_unseen_34 ?_
                            refine g5_tl (v := 0) rfl ?_
                            refine lv_iload_n hx hb dX11_unseen_35 rfl (lv_at hl 3 rfl) ?_
                            have hPc := hP.sub (ws' := []) [] rfl
                            have hDc := hD.sub (ws' := []) [] (by decide) rfl
                            have hFc := va_free (wc := []) hD hS hA [] rfl
                            refine va_calli (va_runS (As := [.long 0, .int n0]) (rest := []) ⟨hx, hb, hml, hown, hts⟩ (kX11_isOn_5 l G H.size n0 ⟨by omega, by omega⟩) (va_cwS 2 hts gS_X11_115 rfl rfl rfl hs_X11_isOn ⟨Nat.le_of_ble_eq_true rfl, Nat.le_of_ble_eq_true rfl⟩) (g5_preS hPc hK hDc hN hT hS hFc) rfl rfl hl.1 rfl (lv_room (Nat.le_of_ble_eq_true rfl)) dX11_unseen_36 ⟨Nat.le_of_ble_eq_true rfl, Nat.le_of_ble_eq_true rfl⟩) hS (fun q _ h => hFc q h) hFc (fun r u t H1 locs ht hvm hw hB hz1 hk1 hS => ?_)
                            obtain ⟨hP1, hD1⟩ := hB
                            rw [ht] at hP1
                            obtain ⟨rfl, rfl⟩ := hw
                            have hP := g5_same hP hk1
                            generalize H1 = H at hP hS ⊢
                            refine lv_if_ne (tgt := 45) hx hb dX11_unseen_39 (by decide) (fun c_20 => ?_) (fun c_20 => ?_)
                            ·
                              exact absurd c_20 (by decide)
                            ·
                              refine lv_iinc (v := 6) (lv' := [(2, .int 6), (3, .int 5), (0, .ref a0), (1, .int n0)]) hx hb dX11_unseen_42 hl (k := 1) rfl (by decide) (by decide) rfl (fun ls hl => ?_)
                              refine lv_iinc (v := 6) (lv' := [(3, .int 6), (2, .int 6), (0, .ref a0), (1, .int n0)]) hx hb dX11_unseen_45 hl (k := 1) rfl (by decide) (by decide) rfl (fun ls hl => ?_)
                              refine lv_goto (tgt := 20) hx hb dX11_unseen_48 (by decide) ?_
                              refine lv_iload_n hx hb dX11_unseen_20 rfl (lv_at hl 0 rfl) ?_
                              refine lv_bipush (v := 24) hx hb dX11_unseen_21 (by decide) ?_
                              refine lv_icmp_ge (tgt := 51) hx hb dX11_unseen_23 (by decide) (fun c_21 => ?_) (fun c_21 => ?_)
                              ·
                                exact absurd c_21 (by decide)
                              ·
                                refine lv_aload_n hx hb dX11_unseen_26 rfl (lv_at hl 2 rfl) ?_
                                refine va_get (D := G.1) (ci := 11) (v := .ref a5) (C := RX11) (T := TX11) (N := 17) hx hb hts inG_X11 hown hK hP 0 rfl rfl 4 (by decide) (hts _ fl_X11_38) (fun _ h9 => h9) rfl dX11_unseen_27 ?_
                                refine va_get (D := G.1) (ci := 10) (v := .ref a13) (C := RX10) (T := TX10) (N := 3) hx hb hts inG_X10 hown hK hP 1 rfl rfl 2 (by decide) (hts _ fl_X11_257) (fun _ h9 => h9) rfl dX11_unseen_30 ?_
                                refine lv_iload_n hx hb dX11_unseen_33 rfl (lv_at hl 0 rfl) ?_
                                refine va_lald hx hb hK hP 4 1 rfl rfl (i := 6) (by unfold vp_in; decide) dX11_unseen_34 ?_
                                refine g5_tl (v := 0) rfl ?_
                                refine lv_iload_n hx hb dX11_unseen_35 rfl (lv_at hl 3 rfl) ?_
                                have hPc := hP.sub (ws' := []) [] rfl
                                have hDc := hD.sub (ws' := []) [] (by decide) rfl
                                have hFc := va_free (wc := []) hD hS hA [] rfl
                                refine va_calli (va_runS (As := [.long 0, .int n0]) (rest := []) ⟨hx, hb, hml, hown, hts⟩ (kX11_isOn_5 l G H.size n0 ⟨by omega, by omega⟩) (va_cwS 2 hts gS_X11_115 rfl rfl rfl hs_X11_isOn ⟨Nat.le_of_ble_eq_true rfl, Nat.le_of_ble_eq_true rfl⟩) (g5_preS hPc hK hDc hN hT hS hFc) rfl rfl hl.1 rfl (lv_room (Nat.le_of_ble_eq_true rfl)) dX11_unseen_36 ⟨Nat.le_of_ble_eq_true rfl, Nat.le_of_ble_eq_true rfl⟩) hS (fun q _ h => hFc q h) hFc (fun r u t H1 locs ht hvm hw hB hz1 hk1 hS => ?_)
                                obtain ⟨hP1, hD1⟩ := hB
                                rw [ht] at hP1
                                obtain ⟨rfl, rfl⟩ := hw
                                have hP := g5_same hP hk1
                                generalize H1 = H at hP hS ⊢
                                refine lv_if_ne (tgt := 45) hx hb dX11_unseen_39 (by decide) (fun c_22 => ?_) (fun c_22 => ?_)
                                ·
                                  exact absurd c_22 (by decide)
                                ·
                                  refine lv_iinc (v := 7) (lv' := [(2, .int 7), (3, .int 6), (0, .ref a0), (1, .int n0)]) hx hb dX11_unseen_42 hl (k := 1) rfl (by decide) (by decide) rfl (fun ls hl => ?_)
                                  refine lv_iinc (v := 7) (lv' := [(3, .int 7), (2, .int 7), (0, .ref a0), (1, .int n0)]) hx hb dX11_unseen_45 hl (k := 1) rfl (by decide) (by decide) rfl (fun ls hl => ?_)
                                  refine lv_goto (tgt := 20) hx hb dX11_unseen_48 (by decide) ?_
                                  refine lv_iload_n hx hb dX11_unseen_20 rfl (lv_at hl 0 rfl) ?_
                                  refine lv_bipush (v := 24) hx hb dX11_unseen_21 (by decide) ?_
                                  refine lv_icmp_ge (tgt := 51) hx hb dX11_unseen_23 (by decide) (fun c_23 => ?_) (fun c_23 => ?_)
                                  ·
                                    exact absurd c_23 (by decide)
                                  ·
                                    refine lv_aload_n hx hb dX11_unseen_26 rfl (lv_at hl 2 rfl) ?_
                                    refine va_get (D := G.1) (ci := 11) (v := .ref a5) (C := RX11) (T := TX11) (N := 17) hx hb hts inG_X11 hown hK hP 0 rfl rfl 4 (by decide) (hts _ fl_X11_38) (fun _ h9 => h9) rfl dX11_unseen_27 ?_
                                    refine va_get (D := G.1) (ci := 10) (v := .ref a13) (C := RX10) (T := TX10) (N := 3) hx hb hts inG_X10 hown hK hP 1 rfl rfl 2 (by decide) (hts _ fl_X11_257) (fun _ h9 => h9) rfl dX11_unseen_30 ?_
                                    refine lv_iload_n hx hb dX11_unseen_33 rfl (lv_at hl 0 rfl) ?_
                                    refine va_lald hx hb hK hP 4 1 rfl rfl (i := 7) (by unfold vp_in; decide) dX11_unseen_34 ?_
                                    refine g5_tl (v := 0) rfl ?_
                                    refine lv_iload_n hx hb dX11_unseen_35 rfl (lv_at hl 3 rfl) ?_
                                    have hPc := hP.sub (ws' := []) [] rfl
                                    have hDc := hD.sub (ws' := []) [] (by decide) rfl
                                    have hFc := va_free (wc := []) hD hS hA [] rfl
                                    refine va_calli (va_runS (As := [.long 0, .int n0]) (rest := []) ⟨hx, hb, hml, hown, hts⟩ (kX11_isOn_5 l G H.size n0 ⟨by omega, by omega⟩) (va_cwS 2 hts gS_X11_115 rfl rfl rfl hs_X11_isOn ⟨Nat.le_of_ble_eq_true rfl, Nat.le_of_ble_eq_true rfl⟩) (g5_preS hPc hK hDc hN hT hS hFc) rfl rfl hl.1 rfl (lv_room (Nat.le_of_ble_eq_true rfl)) dX11_unseen_36 ⟨Nat.le_of_ble_eq_true rfl, Nat.le_of_ble_eq_true rfl⟩) hS (fun q _ h => hFc q h) hFc (fun r u t H1 locs ht hvm hw hB hz1 hk1 hS => ?_)
                                    obtain ⟨hP1, hD1⟩ := hB
                                    rw [ht] at hP1
                                    obtain ⟨rfl, rfl⟩ := hw
                                    have hP := g5_same hP hk1
                                    generalize H1 = H at hP hS ⊢
                                    refine lv_if_ne (tgt := 45) hx hb dX11_unseen_39 (by decide) (fun c_24 => ?_) (fun c_24 => ?_)
                                    ·
                                      exact absurd c_24 (by decide)
                                    ·
                                      refine lv_iinc (v := 8) (lv' := [(2, .int 8), (3, .int 7), (0, .ref a0), (1, .int n0)]) hx hb dX11_unseen_42 hl (k := 1) rfl (by decide) (by decide) rfl (fun ls hl => ?_)
                                      refine lv_iinc (v := 8) (lv' := [(3, .int 8), (2, .int 8), (0, .ref a0), (1, .int n0)]) hx hb dX11_unseen_45 hl (k := 1) rfl (by decide) (by decide) rfl (fun ls hl => ?_)
                                      refine lv_goto (tgt := 20) hx hb dX11_unseen_48 (by decide) ?_
                                      refine lv_iload_n hx hb dX11_unseen_20 rfl (lv_at hl 0 rfl) ?_
                                      refine lv_bipush (v := 24) hx hb dX11_unseen_21 (by decide) ?_
                                      refine lv_icmp_ge (tgt := 51) hx hb dX11_unseen_23 (by decide) (fun c_25 => ?_) (fun c_25 => ?_)
                                      ·
                                        exact absurd c_25 (by decide)
                                      ·
                                        refine lv_aload_n hx hb dX11_unseen_26 rfl (lv_at hl 2 rfl) ?_
                                        refine va_get (D := G.1) (ci := 11) (v := .ref a5) (C := RX11) (T := TX11) (N := 17) hx hb hts inG_X11 hown hK hP 0 rfl rfl 4 (by decide) (hts _ fl_X11_38) (fun _ h9 => h9) rfl dX11_unseen_27 ?_
                                        refine va_get (D := G.1) (ci := 10) (v := .ref a13) (C := RX10) (T := TX10) (N := 3) hx hb hts inG_X10 hown hK hP 1 rfl rfl 2 (by decide) (hts _ fl_X11_257) (fun _ h9 => h9) rfl dX11_unseen_30 ?_
                                        refine lv_iload_n hx hb dX11_unseen_33 rfl (lv_at hl 0 rfl) ?_
                                        refine va_lald hx hb hK hP 4 1 rfl rfl (i := 8) (by unfold vp_in; decide) dX11_unseen_34 ?_
                                        refine g5_tl (v := 0) rfl ?_
                                        refine lv_iload_n hx hb dX11_unseen_35 rfl (lv_at hl 3 rfl) ?_
                                        have hPc := hP.sub (ws' := []) [] rfl
                                        have hDc := hD.sub (ws' := []) [] (by decide) rfl
                                        have hFc := va_free (wc := []) hD hS hA [] rfl
                                        refine va_calli (va_runS (As := [.long 0, .int n0]) (rest := []) ⟨hx, hb, hml, hown, hts⟩ (kX11_isOn_5 l G H.size n0 ⟨by omega, by omega⟩) (va_cwS 2 hts gS_X11_115 rfl rfl rfl hs_X11_isOn ⟨Nat.le_of_ble_eq_true rfl, Nat.le_of_ble_eq_true rfl⟩) (g5_preS hPc hK hDc hN hT hS hFc) rfl rfl hl.1 rfl (lv_room (Nat.le_of_ble_eq_true rfl)) dX11_unseen_36 ⟨Nat.le_of_ble_eq_true rfl, Nat.le_of_ble_eq_true rfl⟩) hS (fun q _ h => hFc q h) hFc (fun r u t H1 locs ht hvm hw hB hz1 hk1 hS => ?_)
                                        obtain ⟨hP1, hD1⟩ := hB
                                        rw [ht] at hP1
                                        obtain ⟨rfl, rfl⟩ := hw
                                        have hP := g5_same hP hk1
                                        generalize H1 = H at hP hS ⊢
                                        refine lv_if_ne (tgt := 45) hx hb dX11_unseen_39 (by decide) (fun c_26 => ?_) (fun c_26 => ?_)
                                        ·
                                          exact absurd c_26 (by decide)
                                        ·
                                          refine lv_iinc (v := 9) (lv' := [(2, .int 9), (3, .int 8), (0, .ref a0), (1, .int n0)]) hx hb dX11_unseen_42 hl (k := 1) rfl (by decide) (by decide) rfl (fun ls hl => ?_)
                                          refine lv_iinc (v := 9) (lv' := [(3, .int 9), (2, .int 9), (0, .ref a0), (1, .int n0)]) hx hb dX11_unseen_45 hl (k := 1) rfl (by decide) (by decide) rfl (fun ls hl => ?_)
                                          refine lv_goto (tgt := 20) hx hb dX11_unseen_48 (by decide) ?_
                                          refine lv_iload_n hx hb dX11_unseen_20 rfl (lv_at hl 0 rfl) ?_
                                          refine lv_bipush (v := 24) hx hb dX11_unseen_21 (by decide) ?_
                                          refine lv_icmp_ge (tgt := 51) hx hb dX11_unseen_23 (by decide) (fun c_27 => ?_) (fun c_27 => ?_)
                                          ·
                                            exact absurd c_27 (by decide)
                                          ·
                                            refine lv_aload_n hx hb dX11_unseen_26 rfl (lv_at hl 2 rfl) ?_
                                            refine va_get (D := G.1) (ci := 11) (v := .ref a5) (C := RX11) (T := TX11) (N := 17) hx hb hts inG_X11 hown hK hP 0 rfl rfl 4 (by decide) (hts _ fl_X11_38) (fun _ h9 => h9) rfl dX11_unseen_27 ?_
                                            refine va_get (D := G.1) (ci := 10) (v := .ref a13) (C := RX10) (T := TX10) (N := 3) hx hb hts inG_X10 hown hK hP 1 rfl rfl 2 (by decide) (hts _ fl_X11_257) (fun _ h9 => h9) rfl dX11_unseen_30 ?_
                                            refine lv_iload_n hx hb dX11_unseen_33 rfl (lv_at hl 0 rfl) ?_
                                            refine va_lald hx hb hK hP 4 1 rfl rfl (i := 9) (by unfold vp_in; decide) dX11_unseen_34 ?_
                                            refine g5_tl (v := 0) rfl ?_
                                            refine lv_iload_n hx hb dX11_unseen_35 rfl (lv_at hl 3 rfl) ?_
                                            have hPc := hP.sub (ws' := []) [] rfl
                                            have hDc := hD.sub (ws' := []) [] (by decide) rfl
                                            have hFc := va_free (wc := []) hD hS hA [] rfl
                                            refine va_calli (va_runS (As := [.long 0, .int n0]) (rest := []) ⟨hx, hb, hml, hown, hts⟩ (kX11_isOn_5 l G H.size n0 ⟨by omega, by omega⟩) (va_cwS 2 hts gS_X11_115 rfl rfl rfl hs_X11_isOn ⟨Nat.le_of_ble_eq_true rfl, Nat.le_of_ble_eq_true rfl⟩) (g5_preS hPc hK hDc hN hT hS hFc) rfl rfl hl.1 rfl (lv_room (Nat.le_of_ble_eq_true rfl)) dX11_unseen_36 ⟨Nat.le_of_ble_eq_true rfl, Nat.le_of_ble_eq_true rfl⟩) hS (fun q _ h => hFc q h) hFc (fun r u t H1 locs ht hvm hw hB hz1 hk1 hS => ?_)
                                            obtain ⟨hP1, hD1⟩ := hB
                                            rw [ht] at hP1
                                            obtain ⟨rfl, rfl⟩ := hw
                                            have hP := g5_same hP hk1
                                            generalize H1 = H at hP hS ⊢
                                            refine lv_if_ne (tgt := 45) hx hb dX11_unseen_39 (by decide) (fun c_28 => ?_) (fun c_28 => ?_)
                                            ·
                                              exact absurd c_28 (by decide)
                                            ·
                                              refine lv_iinc (v := 10) (lv' := [(2, .int 10), (3, .int 9), (0, .ref a0), (1, .int n0)]) hx hb dX11_unseen_42 hl (k := 1) rfl (by decide) (by decide) rfl (fun ls hl => ?_)
                                              refine lv_iinc (v := 10) (lv' := [(3, .int 10), (2, .int 10), (0, .ref a0), (1, .int n0)]) hx hb dX11_unseen_45 hl (k := 1) rfl (by decide) (by decide) rfl (fun ls hl => ?_)
                                              refine lv_goto (tgt := 20) hx hb dX11_unseen_48 (by decide) ?_
                                              refine lv_iload_n hx hb dX11_unseen_20 rfl (lv_at hl 0 rfl) ?_
                                              refine lv_bipush (v := 24) hx hb dX11_unseen_21 (by decide) ?_
                                              refine lv_icmp_ge (tgt := 51) hx hb dX11_unseen_23 (by decide) (fun c_29 => ?_) (fun c_29 => ?_)
                                              ·
                                                exact absurd c_29 (by decide)
                                              ·
                                                refine lv_aload_n hx hb dX11_unseen_26 rfl (lv_at hl 2 rfl) ?_
                                                refine va_get (D := G.1) (ci := 11) (v := .ref a5) (C := RX11) (T := TX11) (N := 17) hx hb hts inG_X11 hown hK hP 0 rfl rfl 4 (by decide) (hts _ fl_X11_38) (fun _ h9 => h9) rfl dX11_unseen_27 ?_
                                                refine va_get (D := G.1) (ci := 10) (v := .ref a13) (C := RX10) (T := TX10) (N := 3) hx hb hts inG_X10 hown hK hP 1 rfl rfl 2 (by decide) (hts _ fl_X11_257) (fun _ h9 => h9) rfl dX11_unseen_30 ?_
                                                refine lv_iload_n hx hb dX11_unseen_33 rfl (lv_at hl 0 rfl) ?_
                                                refine va_lald hx hb hK hP 4 1 rfl rfl (i := 10) (by unfold vp_in; decide) dX11_unseen_34 ?_
                                                refine g5_tl (v := 0) rfl ?_
                                                refine lv_iload_n hx hb dX11_unseen_35 rfl (lv_at hl 3 rfl) ?_
                                                have hPc := hP.sub (ws' := []) [] rfl
                                                have hDc := hD.sub (ws' := []) [] (by decide) rfl
                                                have hFc := va_free (wc := []) hD hS hA [] rfl
                                                refine va_calli (va_runS (As := [.long 0, .int n0]) (rest := []) ⟨hx, hb, hml, hown, hts⟩ (kX11_isOn_5 l G H.size n0 ⟨by omega, by omega⟩) (va_cwS 2 hts gS_X11_115 rfl rfl rfl hs_X11_isOn ⟨Nat.le_of_ble_eq_true rfl, Nat.le_of_ble_eq_true rfl⟩) (g5_preS hPc hK hDc hN hT hS hFc) rfl rfl hl.1 rfl (lv_room (Nat.le_of_ble_eq_true rfl)) dX11_unseen_36 ⟨Nat.le_of_ble_eq_true rfl, Nat.le_of_ble_eq_true rfl⟩) hS (fun q _ h => hFc q h) hFc (fun r u t H1 locs ht hvm hw hB hz1 hk1 hS => ?_)
                                                obtain ⟨hP1, hD1⟩ := hB
                                                rw [ht] at hP1
                                                obtain ⟨rfl, rfl⟩ := hw
                                                have hP := g5_same hP hk1
                                                generalize H1 = H at hP hS ⊢
                                                refine lv_if_ne (tgt := 45) hx hb dX11_unseen_39 (by decide) (fun c_30 => ?_) (fun c_30 => ?_)
                                                ·
                                                  exact absurd c_30 (by decide)
                                                ·
                                                  refine lv_iinc (v := 11) (lv' := [(2, .int 11), (3, .int 10), (0, .ref a0), (1, .int n0)]) hx hb dX11_unseen_42 hl (k := 1) rfl (by decide) (by decide) rfl (fun ls hl => ?_)
                                                  refine lv_iinc (v := 11) (lv' := [(3, .int 11), (2, .int 11), (0, .ref a0), (1, .int n0)]) hx hb dX11_unseen_45 hl (k := 1) rfl (by decide) (by decide) rfl (fun ls hl => ?_)
                                                  refine lv_goto (tgt := 20) hx hb dX11_unseen_48 (by decide) ?_
                                                  refine lv_iload_n hx hb dX11_unseen_20 rfl (lv_at hl 0 rfl) ?_
                                                  refine lv_bipush (v := 24) hx hb dX11_unseen_21 (by decide) ?_
                                                  refine lv_icmp_ge (tgt := 51) hx hb dX11_unseen_23 (by decide) (fun c_31 => ?_) (fun c_31 => ?_)
                                                  ·
                                                    exact absurd c_31 (by decide)
                                                  ·
                                                    refine lv_aload_n hx hb dX11_unseen_26 rfl (lv_at hl 2 rfl) ?_
                                                    refine va_get (D := G.1) (ci := 11) (v := .ref a5) (C := RX11) (T := TX11) (N := 17) hx hb hts inG_X11 hown hK hP 0 rfl rfl 4 (by decide) (hts _ fl_X11_38) (fun _ h9 => h9) rfl dX11_unseen_27 ?_
                                                    refine va_get (D := G.1) (ci := 10) (v := .ref a13) (C := RX10) (T := TX10) (N := 3) hx hb hts inG_X10 hown hK hP 1 rfl rfl 2 (by decide) (hts _ fl_X11_257) (fun _ h9 => h9) rfl dX11_unseen_30 ?_
                                                    refine lv_iload_n hx hb dX11_unseen_33 rfl (lv_at hl 0 rfl) ?_
                                                    refine va_lald hx hb hK hP 4 1 rfl rfl (i := 11) (by unfold vp_in; decide) dX11_unseen_34 ?_
                                                    refine g5_tl (v := 0) rfl ?_
                                                    refine lv_iload_n hx hb dX11_unseen_35 rfl (lv_at hl 3 rfl) ?_
                                                    have hPc := hP.sub (ws' := []) [] rfl
                                                    have hDc := hD.sub (ws' := []) [] (by decide) rfl
                                                    have hFc := va_free (wc := []) hD hS hA [] rfl
                                                    refine va_calli (va_runS (As := [.long 0, .int n0]) (rest := []) ⟨hx, hb, hml, hown, hts⟩ (kX11_isOn_5 l G H.size n0 ⟨by omega, by omega⟩) (va_cwS 2 hts gS_X11_115 rfl rfl rfl hs_X11_isOn ⟨Nat.le_of_ble_eq_true rfl, Nat.le_of_ble_eq_true rfl⟩) (g5_preS hPc hK hDc hN hT hS hFc) rfl rfl hl.1 rfl (lv_room (Nat.le_of_ble_eq_true rfl)) dX11_unseen_36 ⟨Nat.le_of_ble_eq_true rfl, Nat.le_of_ble_eq_true rfl⟩) hS (fun q _ h => hFc q h) hFc (fun r u t H1 locs ht hvm hw hB hz1 hk1 hS => ?_)
                                                    obtain ⟨hP1, hD1⟩ := hB
                                                    rw [ht] at hP1
                                                    obtain ⟨rfl, rfl⟩ := hw
                                                    have hP := g5_same hP hk1
                                                    generalize H1 = H at hP hS ⊢
                                                    refine lv_if_ne (tgt := 45) hx hb dX11_unseen_39 (by decide) (fun c_32 => ?_) (fun c_32 => ?_)
                                                    ·
                                                      exact absurd c_32 (by decide)
                                                    ·
                                                      refine lv_iinc (v := 12) (lv' := [(2, .int 12), (3, .int 11), (0, .ref a0), (1, .int n0)]) hx hb dX11_unseen_42 hl (k := 1) rfl (by decide) (by decide) rfl (fun ls hl => ?_)
                                                      refine lv_iinc (v := 12) (lv' := [(3, .int 12), (2, .int 12), (0, .ref a0), (1, .int n0)]) hx hb dX11_unseen_45 hl (k := 1) rfl (by decide) (by decide) rfl (fun ls hl => ?_)
                                                      refine lv_goto (tgt := 20) hx hb dX11_unseen_48 (by decide) ?_
                                                      refine lv_iload_n hx hb dX11_unseen_20 rfl (lv_at hl 0 rfl) ?_
                                                      refine lv_bipush (v := 24) hx hb dX11_unseen_21 (by decide) ?_
                                                      refine lv_icmp_ge (tgt := 51) hx hb dX11_unseen_23 (by decide) (fun c_33 => ?_) (fun c_33 => ?_)
                                                      ·
                                                        exact absurd c_33 (by decide)
                                                      ·
                                                        refine lv_aload_n hx hb dX11_unseen_26 rfl (lv_at hl 2 rfl) ?_
                                                        refine va_get (D := G.1) (ci := 11) (v := .ref a5) (C := RX11) (T := TX11) (N := 17) hx hb hts inG_X11 hown hK hP 0 rfl rfl 4 (by decide) (hts _ fl_X11_38) (fun _ h9 => h9) rfl dX11_unseen_27 ?_
                                                        refine va_get (D := G.1) (ci := 10) (v := .ref a13) (C := RX10) (T := TX10) (N := 3) hx hb hts inG_X10 hown hK hP 1 rfl rfl 2 (by decide) (hts _ fl_X11_257) (fun _ h9 => h9) rfl dX11_unseen_30 ?_
                                                        refine lv_iload_n hx hb dX11_unseen_33 rfl (lv_at hl 0 rfl) ?_
                                                        refine va_lald hx hb hK hP 4 1 rfl rfl (i := 12) (by unfold vp_in; decide) dX11_unseen_34 ?_
                                                        refine g5_tl (v := 0) rfl ?_
                                                        refine lv_iload_n hx hb dX11_unseen_35 rfl (lv_at hl 3 rfl) ?_
                                                        have hPc := hP.sub (ws' := []) [] rfl
                                                        have hDc := hD.sub (ws' := []) [] (by decide) rfl
                                                        have hFc := va_free (wc := []) hD hS hA [] rfl
                                                        refine va_calli (va_runS (As := [.long 0, .int n0]) (rest := []) ⟨hx, hb, hml, hown, hts⟩ (kX11_isOn_5 l G H.size n0 ⟨by omega, by omega⟩) (va_cwS 2 hts gS_X11_115 rfl rfl rfl hs_X11_isOn ⟨Nat.le_of_ble_eq_true rfl, Nat.le_of_ble_eq_true rfl⟩) (g5_preS hPc hK hDc hN hT hS hFc) rfl rfl hl.1 rfl (lv_room (Nat.le_of_ble_eq_true rfl)) dX11_unseen_36 ⟨Nat.le_of_ble_eq_true rfl, Nat.le_of_ble_eq_true rfl⟩) hS (fun q _ h => hFc q h) hFc (fun r u t H1 locs ht hvm hw hB hz1 hk1 hS => ?_)
                                                        obtain ⟨hP1, hD1⟩ := hB
                                                        rw [ht] at hP1
                                                        obtain ⟨rfl, rfl⟩ := hw
                                                        have hP := g5_same hP hk1
                                                        generalize H1 = H at hP hS ⊢
                                                        refine lv_if_ne (tgt := 45) hx hb dX11_unseen_39 (by decide) (fun c_34 => ?_) (fun c_34 => ?_)
                                                        ·
                                                          exact absurd c_34 (by decide)
                                                        ·
                                                          refine lv_iinc (v := 13) (lv' := [(2, .int 13), (3, .int 12), (0, .ref a0), (1, .int n0)]) hx hb dX11_unseen_42 hl (k := 1) rfl (by decide) (by decide) rfl (fun ls hl => ?_)
                                                          refine lv_iinc (v := 13) (lv' := [(3, .int 13), (2, .int 13), (0, .ref a0), (1, .int n0)]) hx hb dX11_unseen_45 hl (k := 1) rfl (by decide) (by decide) rfl (fun ls hl => ?_)
                                                          refine lv_goto (tgt := 20) hx hb dX11_unseen_48 (by decide) ?_
                                                          refine lv_iload_n hx hb dX11_unseen_20 rfl (lv_at hl 0 rfl) ?_
                                                          refine lv_bipush (v := 24) hx hb dX11_unseen_21 (by decide) ?_
                                                          refine lv_icmp_ge (tgt := 51) hx hb dX11_unseen_23 (by decide) (fun c_35 => ?_) (fun c_35 => ?_)
                                                          ·
                                                            exact absurd c_35 (by decide)
                                                          ·
                                                            refine lv_aload_n hx hb dX11_unseen_26 rfl (lv_at hl 2 rfl) ?_
                                                            refine va_get (D := G.1) (ci := 11) (v := .ref a5) (C := RX11) (T := TX11) (N := 17) hx hb hts inG_X11 hown hK hP 0 rfl rfl 4 (by decide) (hts _ fl_X11_38) (fun _ h9 => h9) rfl dX11_unseen_27 ?_
                                                            refine va_get (D := G.1) (ci := 10) (v := .ref a13) (C := RX10) (T := TX10) (N := 3) hx hb hts inG_X10 hown hK hP 1 rfl rfl 2 (by decide) (hts _ fl_X11_257) (fun _ h9 => h9) rfl dX11_unseen_30 ?_
                                                            refine lv_iload_n hx hb dX11_unseen_33 rfl (lv_at hl 0 rfl) ?_
                                                            refine va_lald hx hb hK hP 4 1 rfl rfl (i := 13) (by unfold vp_in; decide) dX11_unseen_34 ?_
                                                            refine g5_tl (v := 0) rfl ?_
                                                            refine lv_iload_n hx hb dX11_unseen_35 rfl (lv_at hl 3 rfl) ?_
                                                            have hPc := hP.sub (ws' := []) [] rfl
                                                            have hDc := hD.sub (ws' := []) [] (by decide) rfl
                                                            have hFc := va_free (wc := []) hD hS hA [] rfl
                                                            refine va_calli (va_runS (As := [.long 0, .int n0]) (rest := []) ⟨hx, hb, hml, hown, hts⟩ (kX11_isOn_5 l G H.size n0 ⟨by omega, by omega⟩) (va_cwS 2 hts gS_X11_115 rfl rfl rfl hs_X11_isOn ⟨Nat.le_of_ble_eq_true rfl, Nat.le_of_ble_eq_true rfl⟩) (g5_preS hPc hK hDc hN hT hS hFc) rfl rfl hl.1 rfl (lv_room (Nat.le_of_ble_eq_true rfl)) dX11_unseen_36 ⟨Nat.le_of_ble_eq_true rfl, Nat.le_of_ble_eq_true rfl⟩) hS (fun q _ h => hFc q h) hFc (fun r u t H1 locs ht hvm hw hB hz1 hk1 hS => ?_)
                                                            obtain ⟨hP1, hD1⟩ := hB
                                                            rw [ht] at hP1
                                                            obtain ⟨rfl, rfl⟩ := hw
                                                            have hP := g5_same hP hk1
                                                            generalize H1 = H at hP hS ⊢
                                                            refine lv_if_ne (tgt := 45) hx hb dX11_unseen_39 (by decide) (fun c_36 => ?_) (fun c_36 => ?_)
                                                            ·
                                                              exact absurd c_36 (by decide)
                                                            ·
                                                              refine lv_iinc (v := 14) (lv' := [(2, .int 14), (3, .int 13), (0, .ref a0), (1, .int n0)]) hx hb dX11_unseen_42 hl (k := 1) rfl (by decide) (by decide) rfl (fun ls hl => ?_)
                                                              refine lv_iinc (v := 14) (lv' := [(3, .int 14), (2, .int 14), (0, .ref a0), (1, .int n0)]) hx hb dX11_unseen_45 hl (k := 1) rfl (by decide) (by decide) rfl (fun ls hl => ?_)
                                                              refine lv_goto (tgt := 20) hx hb dX11_unseen_48 (by decide) ?_
                                                              refine lv_iload_n hx hb dX11_unseen_20 rfl (lv_at hl 0 rfl) ?_
                                                              refine lv_bipush (v := 24) hx hb dX11_unseen_21 (by decide) ?_
                                                              refine lv_icmp_ge (tgt := 51) hx hb dX11_unseen_23 (by decide) (fun c_37 => ?_) (fun c_37 => ?_)
                                                              ·
                                                                exact absurd c_37 (by decide)
                                                              ·
                                                                refine lv_aload_n hx hb dX11_unseen_26 rfl (lv_at hl 2 rfl) ?_
                                                                refine va_get (D := G.1) (ci := 11) (v := .ref a5) (C := RX11) (T := TX11) (N := 17) hx hb hts inG_X11 hown hK hP 0 rfl rfl 4 (by decide) (hts _ fl_X11_38) (fun _ h9 => h9) rfl dX11_unseen_27 ?_
                                                                refine va_get (D := G.1) (ci := 10) (v := .ref a13) (C := RX10) (T := TX10) (N := 3) hx hb hts inG_X10 hown hK hP 1 rfl rfl 2 (by decide) (hts _ fl_X11_257) (fun _ h9 => h9) rfl dX11_unseen_30 ?_
                                                                refine lv_iload_n hx hb dX11_unseen_33 rfl (lv_at hl 0 rfl) ?_
                                                                refine va_lald hx hb hK hP 4 1 rfl rfl (i := 14) (by unfold vp_in; decide) dX11_unseen_34 ?_
                                                                refine g5_tl (v := 0) rfl ?_
                                                                refine lv_iload_n hx hb dX11_unseen_35 rfl (lv_at hl 3 rfl) ?_
                                                                have hPc := hP.sub (ws' := []) [] rfl
                                                                have hDc := hD.sub (ws' := []) [] (by decide) rfl
                                                                have hFc := va_free (wc := []) hD hS hA [] rfl
                                                                refine va_calli (va_runS (As := [.long 0, .int n0]) (rest := []) ⟨hx, hb, hml, hown, hts⟩ (kX11_isOn_5 l G H.size n0 ⟨by omega, by omega⟩) (va_cwS 2 hts gS_X11_115 rfl rfl rfl hs_X11_isOn ⟨Nat.le_of_ble_eq_true rfl, Nat.le_of_ble_eq_true rfl⟩) (g5_preS hPc hK hDc hN hT hS hFc) rfl rfl hl.1 rfl (lv_room (Nat.le_of_ble_eq_true rfl)) dX11_unseen_36 ⟨Nat.le_of_ble_eq_true rfl, Nat.le_of_ble_eq_true rfl⟩) hS (fun q _ h => hFc q h) hFc (fun r u t H1 locs ht hvm hw hB hz1 hk1 hS => ?_)
                                                                obtain ⟨hP1, hD1⟩ := hB
                                                                rw [ht] at hP1
                                                                obtain ⟨rfl, rfl⟩ := hw
                                                                have hP := g5_same hP hk1
                                                                generalize H1 = H at hP hS ⊢
                                                                refine lv_if_ne (tgt := 45) hx hb dX11_unseen_39 (by decide) (fun c_38 => ?_) (fun c_38 => ?_)
                                                                ·
                                                                  exact absurd c_38 (by decide)
                                                                ·
                                                                  refine lv_iinc (v := 15) (lv' := [(2, .int 15), (3, .int 14), (0, .ref a0), (1, .int n0)]) hx hb dX11_unseen_42 hl (k := 1) rfl (by decide) (by decide) rfl (fun ls hl => ?_)
                                                                  refine lv_iinc (v := 15) (lv' := [(3, .int 15), (2, .int 15), (0, .ref a0), (1, .int n0)]) hx hb dX11_unseen_45 hl (k := 1) rfl (by decide) (by decide) rfl (fun ls hl => ?_)
                                                                  refine lv_goto (tgt := 20) hx hb dX11_unseen_48 (by decide) ?_
                                                                  refine lv_iload_n hx hb dX11_unseen_20 rfl (lv_at hl 0 rfl) ?_
                                                                  refine lv_bipush (v := 24) hx hb dX11_unseen_21 (by decide) ?_
                                                                  refine lv_icmp_ge (tgt := 51) hx hb dX11_unseen_23 (by decide) (fun c_39 => ?_) (fun c_39 => ?_)
                                                                  ·
                                                                    exact absurd c_39 (by decide)
                                                                  ·
                                                                    refine lv_aload_n hx hb dX11_unseen_26 rfl (lv_at hl 2 rfl) ?_
                                                                    refine va_get (D := G.1) (ci := 11) (v := .ref a5) (C := RX11) (T := TX11) (N := 17) hx hb hts inG_X11 hown hK hP 0 rfl rfl 4 (by decide) (hts _ fl_X11_38) (fun _ h9 => h9) rfl dX11_unseen_27 ?_
                                                                    refine va_get (D := G.1) (ci := 10) (v := .ref a13) (C := RX10) (T := TX10) (N := 3) hx hb hts inG_X10 hown hK hP 1 rfl rfl 2 (by decide) (hts _ fl_X11_257) (fun _ h9 => h9) rfl dX11_unseen_30 ?_
                                                                    refine lv_iload_n hx hb dX11_unseen_33 rfl (lv_at hl 0 rfl) ?_
                                                                    refine va_lald hx hb hK hP 4 1 rfl rfl (i := 15) (by unfold vp_in; decide) dX11_unseen_34 ?_
                                                                    refine g5_tl (v := 0) rfl ?_
                                                                    refine lv_iload_n hx hb dX11_unseen_35 rfl (lv_at hl 3 rfl) ?_
                                                                    have hPc := hP.sub (ws' := []) [] rfl
                                                                    have hDc := hD.sub (ws' := []) [] (by decide) rfl
                                                                    have hFc := va_free (wc := []) hD hS hA [] rfl
                                                                    refine va_calli (va_runS (As := [.long 0, .int n0]) (rest := []) ⟨hx, hb, hml, hown, hts⟩ (kX11_isOn_5 l G H.size n0 ⟨by omega, by omega⟩) (va_cwS 2 hts gS_X11_115 rfl rfl rfl hs_X11_isOn ⟨Nat.le_of_ble_eq_true rfl, Nat.le_of_ble_eq_true rfl⟩) (g5_preS hPc hK hDc hN hT hS hFc) rfl rfl hl.1 rfl (lv_room (Nat.le_of_ble_eq_true rfl)) dX11_unseen_36 ⟨Nat.le_of_ble_eq_true rfl, Nat.le_of_ble_eq_true rfl⟩) hS (fun q _ h => hFc q h) hFc (fun r u t H1 locs ht hvm hw hB hz1 hk1 hS => ?_)
                                                                    obtain ⟨hP1, hD1⟩ := hB
                                                                    rw [ht] at hP1
                                                                    obtain ⟨rfl, rfl⟩ := hw
                                                                    have hP := g5_same hP hk1
                                                                    generalize H1 = H at hP hS ⊢
                                                                    refine lv_if_ne (tgt := 45) hx hb dX11_unseen_39 (by decide) (fun c_40 => ?_) (fun c_40 => ?_)
                                                                    ·
                                                                      exact absurd c_40 (by decide)
                                                                    ·
                                                                      refine lv_iinc (v := 16) (lv' := [(2, .int 16), (3, .int 15), (0, .ref a0), (1, .int n0)]) hx hb dX11_unseen_42 hl (k := 1) rfl (by decide) (by decide) rfl (fun ls hl => ?_)
                                                                      refine lv_iinc (v := 16) (lv' := [(3, .int 16), (2, .int 16), (0, .ref a0), (1, .int n0)]) hx hb dX11_unseen_45 hl (k := 1) rfl (by decide) (by decide) rfl (fun ls hl => ?_)
                                                                      refine lv_goto (tgt := 20) hx hb dX11_unseen_48 (by decide) ?_
                                                                      refine lv_iload_n hx hb dX11_unseen_20 rfl (lv_at hl 0 rfl) ?_
                                                                      refine lv_bipush (v := 24) hx hb dX11_unseen_21 (by decide) ?_
                                                                      refine lv_icmp_ge (tgt := 51) hx hb dX11_unseen_23 (by decide) (fun c_41 => ?_) (fun c_41 => ?_)
                                                                      ·
                                                                        exact absurd c_41 (by decide)
                                                                      ·
                                                                        refine lv_aload_n hx hb dX11_unseen_26 rfl (lv_at hl 2 rfl) ?_
                                                                        refine va_get (D := G.1) (ci := 11) (v := .ref a5) (C := RX11) (T := TX11) (N := 17) hx hb hts inG_X11 hown hK hP 0 rfl rfl 4 (by decide) (hts _ fl_X11_38) (fun _ h9 => h9) rfl dX11_unseen_27 ?_
                                                                        refine va_get (D := G.1) (ci := 10) (v := .ref a13) (C := RX10) (T := TX10) (N := 3) hx hb hts inG_X10 hown hK hP 1 rfl rfl 2 (by decide) (hts _ fl_X11_257) (fun _ h9 => h9) rfl dX11_unseen_30 ?_
                                                                        refine lv_iload_n hx hb dX11_unseen_33 rfl (lv_at hl 0 rfl) ?_
                                                                        refine va_lald hx hb hK hP 4 1 rfl rfl (i := 16) (by unfold vp_in; decide) dX11_unseen_34 ?_
                                                                        refine g5_tl (v := 0) rfl ?_
                                                                        refine lv_iload_n hx hb dX11_unseen_35 rfl (lv_at hl 3 rfl) ?_
                                                                        have hPc := hP.sub (ws' := []) [] rfl
                                                                        have hDc := hD.sub (ws' := []) [] (by decide) rfl
                                                                        have hFc := va_free (wc := []) hD hS hA [] rfl
                                                                        refine va_calli (va_runS (As := [.long 0, .int n0]) (rest := []) ⟨hx, hb, hml, hown, hts⟩ (kX11_isOn_5 l G H.size n0 ⟨by omega, by omega⟩) (va_cwS 2 hts gS_X11_115 rfl rfl rfl hs_X11_isOn ⟨Nat.le_of_ble_eq_true rfl, Nat.le_of_ble_eq_true rfl⟩) (g5_preS hPc hK hDc hN hT hS hFc) rfl rfl hl.1 rfl (lv_room (Nat.le_of_ble_eq_true rfl)) dX11_unseen_36 ⟨Nat.le_of_ble_eq_true rfl, Nat.le_of_ble_eq_true rfl⟩) hS (fun q _ h => hFc q h) hFc (fun r u t H1 locs ht hvm hw hB hz1 hk1 hS => ?_)
                                                                        obtain ⟨hP1, hD1⟩ := hB
                                                                        rw [ht] at hP1
                                                                        obtain ⟨rfl, rfl⟩ := hw
                                                                        have hP := g5_same hP hk1
                                                                        generalize H1 = H at hP hS ⊢
                                                                        refine lv_if_ne (tgt := 45) hx hb dX11_unseen_39 (by decide) (fun c_42 => ?_) (fun c_42 => ?_)
                                                                        ·
                                                                          exact absurd c_42 (by decide)
                                                                        ·
                                                                          refine lv_iinc (v := 17) (lv' := [(2, .int 17), (3, .int 16), (0, .ref a0), (1, .int n0)]) hx hb dX11_unseen_42 hl (k := 1) rfl (by decide) (by decide) rfl (fun ls hl => ?_)
                                                                          refine lv_iinc (v := 17) (lv' := [(3, .int 17), (2, .int 17), (0, .ref a0), (1, .int n0)]) hx hb dX11_unseen_45 hl (k := 1) rfl (by decide) (by decide) rfl (fun ls hl => ?_)
                                                                          refine lv_goto (tgt := 20) hx hb dX11_unseen_48 (by decide) ?_
                                                                          refine lv_iload_n hx hb dX11_unseen_20 rfl (lv_at hl 0 rfl) ?_
                                                                          refine lv_bipush (v := 24) hx hb dX11_unseen_21 (by decide) ?_
                                                                          refine lv_icmp_ge (tgt := 51) hx hb dX11_unseen_23 (by decide) (fun c_43 => ?_) (fun c_43 => ?_)
                                                                          ·
                                                                            exact absurd c_43 (by decide)
                                                                          ·
                                                                            refine lv_aload_n hx hb dX11_unseen_26 rfl (lv_at hl 2 rfl) ?_
                                                                            refine va_get (D := G.1) (ci := 11) (v := .ref a5) (C := RX11) (T := TX11) (N := 17) hx hb hts inG_X11 hown hK hP 0 rfl rfl 4 (by decide) (hts _ fl_X11_38) (fun _ h9 => h9) rfl dX11_unseen_27 ?_
                                                                            refine va_get (D := G.1) (ci := 10) (v := .ref a13) (C := RX10) (T := TX10) (N := 3) hx hb hts inG_X10 hown hK hP 1 rfl rfl 2 (by decide) (hts _ fl_X11_257) (fun _ h9 => h9) rfl dX11_unseen_30 ?_
                                                                            refine lv_iload_n hx hb dX11_unseen_33 rfl (lv_at hl 0 rfl) ?_
                                                                            refine va_lald hx hb hK hP 4 1 rfl rfl (i := 17) (by unfold vp_in; decide) dX11_unseen_34 ?_
                                                                            refine g5_tl (v := 0) rfl ?_
                                                                            refine lv_iload_n hx hb dX11_unseen_35 rfl (lv_at hl 3 rfl) ?_
                                                                            have hPc := hP.sub (ws' := []) [] rfl
                                                                            have hDc := hD.sub (ws' := []) [] (by decide) rfl
                                                                            have hFc := va_free (wc := []) hD hS hA [] rfl
                                                                            refine va_calli (va_runS (As := [.long 0, .int n0]) (rest := []) ⟨hx, hb, hml, hown, hts⟩ (kX11_isOn_5 l G H.size n0 ⟨by omega, by omega⟩) (va_cwS 2 hts gS_X11_115 rfl rfl rfl hs_X11_isOn ⟨Nat.le_of_ble_eq_true rfl, Nat.le_of_ble_eq_true rfl⟩) (g5_preS hPc hK hDc hN hT hS hFc) rfl rfl hl.1 rfl (lv_room (Nat.le_of_ble_eq_true rfl)) dX11_unseen_36 ⟨Nat.le_of_ble_eq_true rfl, Nat.le_of_ble_eq_true rfl⟩) hS (fun q _ h => hFc q h) hFc (fun r u t H1 locs ht hvm hw hB hz1 hk1 hS => ?_)
                                                                            obtain ⟨hP1, hD1⟩ := hB
                                                                            rw [ht] at hP1
                                                                            obtain ⟨rfl, rfl⟩ := hw
                                                                            have hP := g5_same hP hk1
                                                                            generalize H1 = H at hP hS ⊢
                                                                            refine lv_if_ne (tgt := 45) hx hb dX11_unseen_39 (by decide) (fun c_44 => ?_) (fun c_44 => ?_)
                                                                            ·
                                                                              exact absurd c_44 (by decide)
                                                                            ·
                                                                              refine lv_iinc (v := 18) (lv' := [(2, .int 18), (3, .int 17), (0, .ref a0), (1, .int n0)]) hx hb dX11_unseen_42 hl (k := 1) rfl (by decide) (by decide) rfl (fun ls hl => ?_)
                                                                              refine lv_iinc (v := 18) (lv' := [(3, .int 18), (2, .int 18), (0, .ref a0), (1, .int n0)]) hx hb dX11_unseen_45 hl (k := 1) rfl (by decide) (by decide) rfl (fun ls hl => ?_)
                                                                              refine lv_goto (tgt := 20) hx hb dX11_unseen_48 (by decide) ?_
                                                                              refine lv_iload_n hx hb dX11_unseen_20 rfl (lv_at hl 0 rfl) ?_
                                                                              refine lv_bipush (v := 24) hx hb dX11_unseen_21 (by decide) ?_
                                                                              refine lv_icmp_ge (tgt := 51) hx hb dX11_unseen_23 (by decide) (fun c_45 => ?_) (fun c_45 => ?_)
                                                                              ·
                                                                                exact absurd c_45 (by decide)
                                                                              ·
                                                                                refine lv_aload_n hx hb dX11_unseen_26 rfl (lv_at hl 2 rfl) ?_
                                                                                refine va_get (D := G.1) (ci := 11) (v := .ref a5) (C := RX11) (T := TX11) (N := 17) hx hb hts inG_X11 hown hK hP 0 rfl rfl 4 (by decide) (hts _ fl_X11_38) (fun _ h9 => h9) rfl dX11_unseen_27 ?_
                                                                                refine va_get (D := G.1) (ci := 10) (v := .ref a13) (C := RX10) (T := TX10) (N := 3) hx hb hts inG_X10 hown hK hP 1 rfl rfl 2 (by decide) (hts _ fl_X11_257) (fun _ h9 => h9) rfl dX11_unseen_30 ?_
                                                                                refine lv_iload_n hx hb dX11_unseen_33 rfl (lv_at hl 0 rfl) ?_
                                                                                refine va_lald hx hb hK hP 4 1 rfl rfl (i := 18) (by unfold vp_in; decide) dX11_unseen_34 ?_
                                                                                refine g5_tl (v := 0) rfl ?_
                                                                                refine lv_iload_n hx hb dX11_unseen_35 rfl (lv_at hl 3 rfl) ?_
                                                                                have hPc := hP.sub (ws' := []) [] rfl
                                                                                have hDc := hD.sub (ws' := []) [] (by decide) rfl
                                                                                have hFc := va_free (wc := []) hD hS hA [] rfl
                                                                                refine va_calli (va_runS (As := [.long 0, .int n0]) (rest := []) ⟨hx, hb, hml, hown, hts⟩ (kX11_isOn_5 l G H.size n0 ⟨by omega, by omega⟩) (va_cwS 2 hts gS_X11_115 rfl rfl rfl hs_X11_isOn ⟨Nat.le_of_ble_eq_true rfl, Nat.le_of_ble_eq_true rfl⟩) (g5_preS hPc hK hDc hN hT hS hFc) rfl rfl hl.1 rfl (lv_room (Nat.le_of_ble_eq_true rfl)) dX11_unseen_36 ⟨Nat.le_of_ble_eq_true rfl, Nat.le_of_ble_eq_true rfl⟩) hS (fun q _ h => hFc q h) hFc (fun r u t H1 locs ht hvm hw hB hz1 hk1 hS => ?_)
                                                                                obtain ⟨hP1, hD1⟩ := hB
                                                                                rw [ht] at hP1
                                                                                obtain ⟨rfl, rfl⟩ := hw
                                                                                have hP := g5_same hP hk1
                                                                                generalize H1 = H at hP hS ⊢
                                                                                refine lv_if_ne (tgt := 45) hx hb dX11_unseen_39 (by decide) (fun c_46 => ?_) (fun c_46 => ?_)
                                                                                ·
                                                                                  exact absurd c_46 (by decide)
                                                                                ·
                                                                                  refine lv_iinc (v := 19) (lv' := [(2, .int 19), (3, .int 18), (0, .ref a0), (1, .int n0)]) hx hb dX11_unseen_42 hl (k := 1) rfl (by decide) (by decide) rfl (fun ls hl => ?_)
                                                                                  refine lv_iinc (v := 19) (lv' := [(3, .int 19), (2, .int 19), (0, .ref a0), (1, .int n0)]) hx hb dX11_unseen_45 hl (k := 1) rfl (by decide) (by decide) rfl (fun ls hl => ?_)
                                                                                  refine lv_goto (tgt := 20) hx hb dX11_unseen_48 (by decide) ?_
                                                                                  refine lv_iload_n hx hb dX11_unseen_20 rfl (lv_at hl 0 rfl) ?_
                                                                                  refine lv_bipush (v := 24) hx hb dX11_unseen_21 (by decide) ?_
                                                                                  refine lv_icmp_ge (tgt := 51) hx hb dX11_unseen_23 (by decide) (fun c_47 => ?_) (fun c_47 => ?_)
                                                                                  ·
                                                                                    exact absurd c_47 (by decide)
                                                                                  ·
                                                                                    refine lv_aload_n hx hb dX11_unseen_26 rfl (lv_at hl 2 rfl) ?_
                                                                                    refine va_get (D := G.1) (ci := 11) (v := .ref a5) (C := RX11) (T := TX11) (N := 17) hx hb hts inG_X11 hown hK hP 0 rfl rfl 4 (by decide) (hts _ fl_X11_38) (fun _ h9 => h9) rfl dX11_unseen_27 ?_
                                                                                    refine va_get (D := G.1) (ci := 10) (v := .ref a13) (C := RX10) (T := TX10) (N := 3) hx hb hts inG_X10 hown hK hP 1 rfl rfl 2 (by decide) (hts _ fl_X11_257) (fun _ h9 => h9) rfl dX11_unseen_30 ?_
                                                                                    refine lv_iload_n hx hb dX11_unseen_33 rfl (lv_at hl 0 rfl) ?_
                                                                                    refine va_lald hx hb hK hP 4 1 rfl rfl (i := 19) (by unfold vp_in; decide) dX11_unseen_34 ?_
                                                                                    refine g5_tl (v := 0) rfl ?_
                                                                                    refine lv_iload_n hx hb dX11_unseen_35 rfl (lv_at hl 3 rfl) ?_
                                                                                    have hPc := hP.sub (ws' := []) [] rfl
                                                                                    have hDc := hD.sub (ws' := []) [] (by decide) rfl
                                                                                    have hFc := va_free (wc := []) hD hS hA [] rfl
                                                                                    refine va_calli (va_runS (As := [.long 0, .int n0]) (rest := []) ⟨hx, hb, hml, hown, hts⟩ (kX11_isOn_5 l G H.size n0 ⟨by omega, by omega⟩) (va_cwS 2 hts gS_X11_115 rfl rfl rfl hs_X11_isOn ⟨Nat.le_of_ble_eq_true rfl, Nat.le_of_ble_eq_true rfl⟩) (g5_preS hPc hK hDc hN hT hS hFc) rfl rfl hl.1 rfl (lv_room (Nat.le_of_ble_eq_true rfl)) dX11_unseen_36 ⟨Nat.le_of_ble_eq_true rfl, Nat.le_of_ble_eq_true rfl⟩) hS (fun q _ h => hFc q h) hFc (fun r u t H1 locs ht hvm hw hB hz1 hk1 hS => ?_)
                                                                                    obtain ⟨hP1, hD1⟩ := hB
                                                                                    rw [ht] at hP1
                                                                                    obtain ⟨rfl, rfl⟩ := hw
                                                                                    have hP := g5_same hP hk1
                                                                                    generalize H1 = H at hP hS ⊢
                                                                                    refine lv_if_ne (tgt := 45) hx hb dX11_unseen_39 (by decide) (fun c_48 => ?_) (fun c_48 => ?_)
                                                                                    ·
                                                                                      exact absurd c_48 (by decide)
                                                                                    ·
                                                                                      refine lv_iinc (v := 20) (lv' := [(2, .int 20), (3, .int 19), (0, .ref a0), (1, .int n0)]) hx hb dX11_unseen_42 hl (k := 1) rfl (by decide) (by decide) rfl (fun ls hl => ?_)
                                                                                      refine lv_iinc (v := 20) (lv' := [(3, .int 20), (2, .int 20), (0, .ref a0), (1, .int n0)]) hx hb dX11_unseen_45 hl (k := 1) rfl (by decide) (by decide) rfl (fun ls hl => ?_)
                                                                                      refine lv_goto (tgt := 20) hx hb dX11_unseen_48 (by decide) ?_
                                                                                      refine lv_iload_n hx hb dX11_unseen_20 rfl (lv_at hl 0 rfl) ?_
                                                                                      refine lv_bipush (v := 24) hx hb dX11_unseen_21 (by decide) ?_
                                                                                      refine lv_icmp_ge (tgt := 51) hx hb dX11_unseen_23 (by decide) (fun c_49 => ?_) (fun c_49 => ?_)
                                                                                      ·
                                                                                        exact absurd c_49 (by decide)
                                                                                      ·
                                                                                        refine lv_aload_n hx hb dX11_unseen_26 rfl (lv_at hl 2 rfl) ?_
                                                                                        refine va_get (D := G.1) (ci := 11) (v := .ref a5) (C := RX11) (T := TX11) (N := 17) hx hb hts inG_X11 hown hK hP 0 rfl rfl 4 (by decide) (hts _ fl_X11_38) (fun _ h9 => h9) rfl dX11_unseen_27 ?_
                                                                                        refine va_get (D := G.1) (ci := 10) (v := .ref a13) (C := RX10) (T := TX10) (N := 3) hx hb hts inG_X10 hown hK hP 1 rfl rfl 2 (by decide) (hts _ fl_X11_257) (fun _ h9 => h9) rfl dX11_unseen_30 ?_
                                                                                        refine lv_iload_n hx hb dX11_unseen_33 rfl (lv_at hl 0 rfl) ?_
                                                                                        refine va_lald hx hb hK hP 4 1 rfl rfl (i := 20) (by unfold vp_in; decide) dX11_unseen_34 ?_
                                                                                        refine g5_tl (v := 0) rfl ?_
                                                                                        refine lv_iload_n hx hb dX11_unseen_35 rfl (lv_at hl 3 rfl) ?_
                                                                                        have hPc := hP.sub (ws' := []) [] rfl
                                                                                        have hDc := hD.sub (ws' := []) [] (by decide) rfl
                                                                                        have hFc := va_free (wc := []) hD hS hA [] rfl
                                                                                        refine va_calli (va_runS (As := [.long 0, .int n0]) (rest := []) ⟨hx, hb, hml, hown, hts⟩ (kX11_isOn_5 l G H.size n0 ⟨by omega, by omega⟩) (va_cwS 2 hts gS_X11_115 rfl rfl rfl hs_X11_isOn ⟨Nat.le_of_ble_eq_true rfl, Nat.le_of_ble_eq_true rfl⟩) (g5_preS hPc hK hDc hN hT hS hFc) rfl rfl hl.1 rfl (lv_room (Nat.le_of_ble_eq_true rfl)) dX11_unseen_36 ⟨Nat.le_of_ble_eq_true rfl, Nat.le_of_ble_eq_true rfl⟩) hS (fun q _ h => hFc q h) hFc (fun r u t H1 locs ht hvm hw hB hz1 hk1 hS => ?_)
                                                                                        obtain ⟨hP1, hD1⟩ := hB
                                                                                        rw [ht] at hP1
                                                                                        obtain ⟨rfl, rfl⟩ := hw
                                                                                        have hP := g5_same hP hk1
                                                                                        generalize H1 = H at hP hS ⊢
                                                                                        refine lv_if_ne (tgt := 45) hx hb dX11_unseen_39 (by decide) (fun c_50 => ?_) (fun c_50 => ?_)
                                                                                        ·
                                                                                          exact absurd c_50 (by decide)
                                                                                        ·
                                                                                          refine lv_iinc (v := 21) (lv' := [(2, .int 21), (3, .int 20), (0, .ref a0), (1, .int n0)]) hx hb dX11_unseen_42 hl (k := 1) rfl (by decide) (by decide) rfl (fun ls hl => ?_)
                                                                                          refine lv_iinc (v := 21) (lv' := [(3, .int 21), (2, .int 21), (0, .ref a0), (1, .int n0)]) hx hb dX11_unseen_45 hl (k := 1) rfl (by decide) (by decide) rfl (fun ls hl => ?_)
                                                                                          refine lv_goto (tgt := 20) hx hb dX11_unseen_48 (by decide) ?_
                                                                                          refine lv_iload_n hx hb dX11_unseen_20 rfl (lv_at hl 0 rfl) ?_
                                                                                          refine lv_bipush (v := 24) hx hb dX11_unseen_21 (by decide) ?_
                                                                                          refine lv_icmp_ge (tgt := 51) hx hb dX11_unseen_23 (by decide) (fun c_51 => ?_) (fun c_51 => ?_)
                                                                                          ·
                                                                                            exact absurd c_51 (by decide)
                                                                                          ·
                                                                                            refine lv_aload_n hx hb dX11_unseen_26 rfl (lv_at hl 2 rfl) ?_
                                                                                            refine va_get (D := G.1) (ci := 11) (v := .ref a5) (C := RX11) (T := TX11) (N := 17) hx hb hts inG_X11 hown hK hP 0 rfl rfl 4 (by decide) (hts _ fl_X11_38) (fun _ h9 => h9) rfl dX11_unseen_27 ?_
                                                                                            refine va_get (D := G.1) (ci := 10) (v := .ref a13) (C := RX10) (T := TX10) (N := 3) hx hb hts inG_X10 hown hK hP 1 rfl rfl 2 (by decide) (hts _ fl_X11_257) (fun _ h9 => h9) rfl dX11_unseen_30 ?_
                                                                                            refine lv_iload_n hx hb dX11_unseen_33 rfl (lv_at hl 0 rfl) ?_
                                                                                            refine va_lald hx hb hK hP 4 1 rfl rfl (i := 21) (by unfold vp_in; decide) dX11_unseen_34 ?_
                                                                                            refine g5_tl (v := 0) rfl ?_
                                                                                            refine lv_iload_n hx hb dX11_unseen_35 rfl (lv_at hl 3 rfl) ?_
                                                                                            have hPc := hP.sub (ws' := []) [] rfl
                                                                                            have hDc := hD.sub (ws' := []) [] (by decide) rfl
                                                                                            have hFc := va_free (wc := []) hD hS hA [] rfl
                                                                                            refine va_calli (va_runS (As := [.long 0, .int n0]) (rest := []) ⟨hx, hb, hml, hown, hts⟩ (kX11_isOn_5 l G H.size n0 ⟨by omega, by omega⟩) (va_cwS 2 hts gS_X11_115 rfl rfl rfl hs_X11_isOn ⟨Nat.le_of_ble_eq_true rfl, Nat.le_of_ble_eq_true rfl⟩) (g5_preS hPc hK hDc hN hT hS hFc) rfl rfl hl.1 rfl (lv_room (Nat.le_of_ble_eq_true rfl)) dX11_unseen_36 ⟨Nat.le_of_ble_eq_true rfl, Nat.le_of_ble_eq_true rfl⟩) hS (fun q _ h => hFc q h) hFc (fun r u t H1 locs ht hvm hw hB hz1 hk1 hS => ?_)
                                                                                            obtain ⟨hP1, hD1⟩ := hB
                                                                                            rw [ht] at hP1
                                                                                            obtain ⟨rfl, rfl⟩ := hw
                                                                                            have hP := g5_same hP hk1
                                                                                            generalize H1 = H at hP hS ⊢
                                                                                            refine lv_if_ne (tgt := 45) hx hb dX11_unseen_39 (by decide) (fun c_52 => ?_) (fun c_52 => ?_)
                                                                                            ·
                                                                                              exact absurd c_52 (by decide)
                                                                                            ·
                                                                                              refine lv_iinc (v := 22) (lv' := [(2, .int 22), (3, .int 21), (0, .ref a0), (1, .int n0)]) hx hb dX11_unseen_42 hl (k := 1) rfl (by decide) (by decide) rfl (fun ls hl => ?_)
                                                                                              refine lv_iinc (v := 22) (lv' := [(3, .int 22), (2, .int 22), (0, .ref a0), (1, .int n0)]) hx hb dX11_unseen_45 hl (k := 1) rfl (by decide) (by decide) rfl (fun ls hl => ?_)
                                                                                              refine lv_goto (tgt := 20) hx hb dX11_unseen_48 (by decide) ?_
                                                                                              refine lv_iload_n hx hb dX11_unseen_20 rfl (lv_at hl 0 rfl) ?_
                                                                                              refine lv_bipush (v := 24) hx hb dX11_unseen_21 (by decide) ?_
                                                                                              refine lv_icmp_ge (tgt := 51) hx hb dX11_unseen_23 (by decide) (fun c_53 => ?_) (fun c_53 => ?_)
                                                                                              ·
                                                                                                exact absurd c_53 (by decide)
                                                                                              ·
                                                                                                refine lv_aload_n hx hb dX11_unseen_26 rfl (lv_at hl 2 rfl) ?_
                                                                                                refine va_get (D := G.1) (ci := 11) (v := .ref a5) (C := RX11) (T := TX11) (N := 17) hx hb hts inG_X11 hown hK hP 0 rfl rfl 4 (by decide) (hts _ fl_X11_38) (fun _ h9 => h9) rfl dX11_unseen_27 ?_
                                                                                                refine va_get (D := G.1) (ci := 10) (v := .ref a13) (C := RX10) (T := TX10) (N := 3) hx hb hts inG_X10 hown hK hP 1 rfl rfl 2 (by decide) (hts _ fl_X11_257) (fun _ h9 => h9) rfl dX11_unseen_30 ?_
                                                                                                refine lv_iload_n hx hb dX11_unseen_33 rfl (lv_at hl 0 rfl) ?_
                                                                                                refine va_lald hx hb hK hP 4 1 rfl rfl (i := 22) (by unfold vp_in; decide) dX11_unseen_34 ?_
                                                                                                refine g5_tl (v := 0) rfl ?_
                                                                                                refine lv_iload_n hx hb dX11_unseen_35 rfl (lv_at hl 3 rfl) ?_
                                                                                                have hPc := hP.sub (ws' := []) [] rfl
                                                                                                have hDc := hD.sub (ws' := []) [] (by decide) rfl
                                                                                                have hFc := va_free (wc := []) hD hS hA [] rfl
                                                                                                refine va_calli (va_runS (As := [.long 0, .int n0]) (rest := []) ⟨hx, hb, hml, hown, hts⟩ (kX11_isOn_5 l G H.size n0 ⟨by omega, by omega⟩) (va_cwS 2 hts gS_X11_115 rfl rfl rfl hs_X11_isOn ⟨Nat.le_of_ble_eq_true rfl, Nat.le_of_ble_eq_true rfl⟩) (g5_preS hPc hK hDc hN hT hS hFc) rfl rfl hl.1 rfl (lv_room (Nat.le_of_ble_eq_true rfl)) dX11_unseen_36 ⟨Nat.le_of_ble_eq_true rfl, Nat.le_of_ble_eq_true rfl⟩) hS (fun q _ h => hFc q h) hFc (fun r u t H1 locs ht hvm hw hB hz1 hk1 hS => ?_)
                                                                                                obtain ⟨hP1, hD1⟩ := hB
                                                                                                rw [ht] at hP1
                                                                                                obtain ⟨rfl, rfl⟩ := hw
                                                                                                have hP := g5_same hP hk1
                                                                                                generalize H1 = H at hP hS ⊢
                                                                                                refine lv_if_ne (tgt := 45) hx hb dX11_unseen_39 (by decide) (fun c_54 => ?_) (fun c_54 => ?_)
                                                                                                ·
                                                                                                  exact absurd c_54 (by decide)
                                                                                                ·
                                                                                                  refine lv_iinc (v := 23) (lv' := [(2, .int 23), (3, .int 22), (0, .ref a0), (1, .int n0)]) hx hb dX11_unseen_42 hl (k := 1) rfl (by decide) (by decide) rfl (fun ls hl => ?_)
                                                                                                  refine lv_iinc (v := 23) (lv' := [(3, .int 23), (2, .int 23), (0, .ref a0), (1, .int n0)]) hx hb dX11_unseen_45 hl (k := 1) rfl (by decide) (by decide) rfl (fun ls hl => ?_)
                                                                                                  refine lv_goto (tgt := 20) hx hb dX11_unseen_48 (by decide) ?_
                                                                                                  refine lv_iload_n hx hb dX11_unseen_20 rfl (lv_at hl 0 rfl) ?_
                                                                                                  refine lv_bipush (v := 24) hx hb dX11_unseen_21 (by decide) ?_
                                                                                                  refine lv_icmp_ge (tgt := 51) hx hb dX11_unseen_23 (by decide) (fun c_55 => ?_) (fun c_55 => ?_)
                                                                                                  ·
                                                                                                    exact absurd c_55 (by decide)
                                                                                                  ·
                                                                                                    refine lv_aload_n hx hb dX11_unseen_26 rfl (lv_at hl 2 rfl) ?_
                                                                                                    refine va_get (D := G.1) (ci := 11) (v := .ref a5) (C := RX11) (T := TX11) (N := 17) hx hb hts inG_X11 hown hK hP 0 rfl rfl 4 (by decide) (hts _ fl_X11_38) (fun _ h9 => h9) rfl dX11_unseen_27 ?_
                                                                                                    refine va_get (D := G.1) (ci := 10) (v := .ref a13) (C := RX10) (T := TX10) (N := 3) hx hb hts inG_X10 hown hK hP 1 rfl rfl 2 (by decide) (hts _ fl_X11_257) (fun _ h9 => h9) rfl dX11_unseen_30 ?_
                                                                                                    refine lv_iload_n hx hb dX11_unseen_33 rfl (lv_at hl 0 rfl) ?_
                                                                                                    refine va_lald hx hb hK hP 4 1 rfl rfl (i := 23) (by unfold vp_in; decide) dX11_unseen_34 ?_
                                                                                                    refine g5_tl (v := 0) rfl ?_
                                                                                                    refine lv_iload_n hx hb dX11_unseen_35 rfl (lv_at hl 3 rfl) ?_
                                                                                                    have hPc := hP.sub (ws' := []) [] rfl
                                                                                                    have hDc := hD.sub (ws' := []) [] (by decide) rfl
                                                                                                    have hFc := va_free (wc := []) hD hS hA [] rfl
                                                                                                    refine va_calli (va_runS (As := [.long 0, .int n0]) (rest := []) ⟨hx, hb, hml, hown, hts⟩ (kX11_isOn_5 l G H.size n0 ⟨by omega, by omega⟩) (va_cwS 2 hts gS_X11_115 rfl rfl rfl hs_X11_isOn ⟨Nat.le_of_ble_eq_true rfl, Nat.le_of_ble_eq_true rfl⟩) (g5_preS hPc hK hDc hN hT hS hFc) rfl rfl hl.1 rfl (lv_room (Nat.le_of_ble_eq_true rfl)) dX11_unseen_36 ⟨Nat.le_of_ble_eq_true rfl, Nat.le_of_ble_eq_true rfl⟩) hS (fun q _ h => hFc q h) hFc (fun r u t H1 locs ht hvm hw hB hz1 hk1 hS => ?_)
                                                                                                    obtain ⟨hP1, hD1⟩ := hB
                                                                                                    rw [ht] at hP1
                                                                                                    obtain ⟨rfl, rfl⟩ := hw
                                                                                                    have hP := g5_same hP hk1
                                                                                                    generalize H1 = H at hP hS ⊢
                                                                                                    refine lv_if_ne (tgt := 45) hx hb dX11_unseen_39 (by decide) (fun c_56 => ?_) (fun c_56 => ?_)
                                                                                                    ·
                                                                                                      exact absurd c_56 (by decide)
                                                                                                    ·
                                                                                                      refine lv_iinc (v := 24) (lv' := [(2, .int 24), (3, .int 23), (0, .ref a0), (1, .int n0)]) hx hb dX11_unseen_42 hl (k := 1) rfl (by decide) (by decide) rfl (fun ls hl => ?_)
                                                                                                      refine lv_iinc (v := 24) (lv' := [(3, .int 24), (2, .int 24), (0, .ref a0), (1, .int n0)]) hx hb dX11_unseen_45 hl (k := 1) rfl (by decide) (by decide) rfl (fun ls hl => ?_)
                                                                                                      refine lv_goto (tgt := 20) hx hb dX11_unseen_48 (by decide) ?_
                                                                                                      refine lv_iload_n hx hb dX11_unseen_20 rfl (lv_at hl 0 rfl) ?_
                                                                                                      refine lv_bipush (v := 24) hx hb dX11_unseen_21 (by decide) ?_
                                                                                                      refine lv_icmp_ge (tgt := 51) hx hb dX11_unseen_23 (by decide) (fun c_57 => ?_) (fun c_57 => ?_)
                                                                                                      ·
                                                                                                        refine lv_iload_n hx hb dX11_unseen_51 rfl (lv_at hl 1 rfl) ?_
                                                                                                        have hP := hP.sub (ws' := []) [] rfl
                                                                                                        have hD := hD.sub (ws' := []) [] (by decide) rfl
                                                                                                        exact W.iret (v := 24) hx hb hr (fun t ht hW => ⟨⟨24, [], rfl, Or.inr (Or.inr (⟨i_4, i_5, rfl, rfl⟩)), by rw [ht]; exact hP, hD⟩, hS.F ht⟩) hS.2.2 dX11_unseen_52
                                                                                                      ·
                                                                                                        exact absurd c_57 (by decide)
    ·
      exact absurd c_8 (by decide)
theorem fl_X11_261 : Cond.fieldLink RX11 261 "LateGlass$House" "sightings" "LLateGlass$Table;" ∈ tblG := tg 180 (by decide +kernel) (by decide +kernel)
set_option maxHeartbeats 4000000 in
set_option maxRecDepth 100000 in
theorem kX6_isFull_3 (l : Launch) (G : g5_G) (a0 a1 : Nat) (sz : Nat) : Met l yX6_isFull (wsG yX6_isFull cX6_isFull 1 (some .boolean)) ({ frames := 0, cells := 0, slots := 0, locals := 0 }) (va_Pc [.ref a0] (g5_P G [(a0, .inr (6, [.int 10, .int 4, .ref a1, .int 0]))] sz)) (va_Qi (fun (r : Int32) (u : va_W) => ((r = 0) ∧ (u = [(a0, .inr (6, [.int 10, .int 4, .ref a1, .int 0]))]))) (g5_B G (va_A [(a0, .inr (6, [.int 10, .int 4, .ref a1, .int 0]))] sz)) (va_A [(a0, .inr (6, [.int 10, .int 4, .ref a1, .int 0]))] sz)) 0 0 (va_A [(a0, .inr (6, [.int 10, .int 4, .ref a1, .int 0]))] sz) := by
  refine Met.ofW (cc := cX6_isFull) (maxL := 1) (ret := (some .boolean)) (by decide) rfl ?_
  intro p e s m args below meth c s₁ B hml hv
  obtain ⟨rfl, hsz, hP, hK, hD0, hN, hT⟩ := hv
  have hx := B.exec
  have hb := B.bytes
  have hr := B.returns
  have hts : ∀ w ∈ tblG, w.before _ s = true := fun w h => atoms_spec (ws := (wsG yX6_isFull cX6_isFull 1 (some .boolean))) B.pre w (List.mem_cons_of_mem _ h)
  have hown : s.vm.findClass RX6 = some m.cls := findClass_of_methodNamed B.named
  have hlocks := B.notSynchronized
  subst hsz
  have hD := hD0.self (sz := s.heap.size)
  generalize hAe : va_A [(a0, .inr (6, [.int 10, .int 4, .ref a1, .int 0]))] s.heap.size = A at hD hT ⊢
  have hA : ∀ q : Nat, s.heap.size ≤ q → A q := fun q h => by rw [← hAe]; exact Or.inr h
  have hS : va_S A s.heap s.heap [] := va_S.rf
  have hP : va_P G.1 vwCl [(a0, .inr (6, [.int 10, .int 4, .ref a1, .int 0]))] s.heap := hP
  have hl := lv_entry ([.ref a0]) (n := 1) (Nat.le_of_ble_eq_true rfl)
  rw [lg_entry_eq]
  generalize (lg_sl ([.ref a0]) ++ List.replicate (1 - (lg_sl ([.ref a0])).length) Slot.unset).toArray = ls at hl ⊢
  have hl : lv_has ls 1 [(0, .ref a0)] := hl
  refine lv_aload_n hx hb dX6_isFull_0 rfl (lv_at hl 0 rfl) ?_
  refine va_get (D := G.1) (ci := 6) (v := .int 0) (C := RX6) (T := TX6) (N := 4) hx hb hts inG_X6 hown hK hP 0 rfl rfl 3 (by decide) (hts _ fl_X6_9) (fun _ h9 => h9) rfl dX6_isFull_1 ?_
  refine lv_aload_n hx hb dX6_isFull_4 rfl (lv_at hl 0 rfl) ?_
  refine va_get (D := G.1) (ci := 6) (v := .int 10) (C := RX6) (T := TX6) (N := 4) hx hb hts inG_X6 hown hK hP 0 rfl rfl 0 (by decide) (hts _ fl_X6_15) (fun _ h9 => h9) rfl dX6_isFull_5 ?_
  refine lv_icmp_lt (tgt := 15) hx hb dX6_isFull_8 (by decide) (fun c_1 => ?_) (fun c_1 => ?_)
  ·
    refine lv_iconst (v := 0) hx hb dX6_isFull_15 (by decide) ?_
    exact W.zret (v := 0) hx hb hr rfl (fun t ht hW => ⟨⟨0, [(a0, .inr (6, [.int 10, .int 4, .ref a1, .int 0]))], rfl, ⟨rfl, rfl⟩, by rw [ht]; exact hP, hD⟩, hS.F ht⟩) hS.2.2 dX6_isFull_16
  ·
    exact absurd c_1 (by decide)
set_option maxHeartbeats 4000000 in
set_option maxRecDepth 100000 in
theorem kX6_has_5 (l : Launch) (G : g5_G) (a0 a1 : Nat) (sz : Nat) : Met l yX6_has (wsG yX6_has cX6_has 2 (some .boolean)) ({ frames := 0, cells := 0, slots := 0, locals := 0 }) (va_Pc [.ref a0, .int 0] (g5_P G [(a0, .inr (6, [.int 10, .int 4, .ref a1, .int 1]))] sz)) (va_Qi (fun (r : Int32) (u : va_W) => ((r = 1) ∧ (u = [(a0, .inr (6, [.int 10, .int 4, .ref a1, .int 1]))]))) (g5_B G (va_A [(a0, .inr (6, [.int 10, .int 4, .ref a1, .int 1]))] sz)) (va_A [(a0, .inr (6, [.int 10, .int 4, .ref a1, .int 1]))] sz)) 0 0 (va_A [(a0, .inr (6, [.int 10, .int 4, .ref a1, .int 1]))] sz) := by
  refine Met.ofW (cc := cX6_has) (maxL := 2) (ret := (some .boolean)) (by decide) rfl ?_
  intro p e s m args below meth c s₁ B hml hv
  obtain ⟨rfl, hsz, hP, hK, hD0, hN, hT⟩ := hv
  have hx := B.exec
  have hb := B.bytes
  have hr := B.returns
  have hts : ∀ w ∈ tblG, w.before _ s = true := fun w h => atoms_spec (ws := (wsG yX6_has cX6_has 2 (some .boolean))) B.pre w (List.mem_cons_of_mem _ h)
  have hown : s.vm.findClass RX6 = some m.cls := findClass_of_methodNamed B.named
  have hlocks := B.notSynchronized
  subst hsz
  have hD := hD0.self (sz := s.heap.size)
  generalize hAe : va_A [(a0, .inr (6, [.int 10, .int 4, .ref a1, .int 1]))] s.heap.size = A at hD hT ⊢
  have hA : ∀ q : Nat, s.heap.size ≤ q → A q := fun q h => by rw [← hAe]; exact Or.inr h
  have hS : va_S A s.heap s.heap [] := va_S.rf
  have hP : va_P G.1 vwCl [(a0, .inr (6, [.int 10, .int 4, .ref a1, .int 1]))] s.heap := hP
  have hl := lv_entry ([.ref a0, .int 0]) (n := 2) (Nat.le_of_ble_eq_true rfl)
  rw [lg_entry_eq]
  generalize (lg_sl ([.ref a0, .int 0]) ++ List.replicate (2 - (lg_sl ([.ref a0, .int 0])).length) Slot.unset).toArray = ls at hl ⊢
  have hl : lv_has ls 2 [(0, .ref a0), (1, .int 0)] := hl
  refine lv_iload_n hx hb dX6_has_0 rfl (lv_at hl 1 rfl) ?_
  refine lv_if_lt (tgt := 16) hx hb dX6_has_1 (by decide) (fun c_1 => ?_) (fun c_1 => ?_)
  ·
    exact absurd c_1 (by decide)
  ·
    refine lv_iload_n hx hb dX6_has_4 rfl (lv_at hl 1 rfl) ?_
    refine lv_aload_n hx hb dX6_has_5 rfl (lv_at hl 0 rfl) ?_
    refine va_get (D := G.1) (ci := 6) (v := .int 1) (C := RX6) (T := TX6) (N := 4) hx hb hts inG_X6 hown hK hP 0 rfl rfl 3 (by decide) (hts _ fl_X6_9) (fun _ h9 => h9) rfl dX6_has_6 ?_
    refine lv_icmp_ge (tgt := 16) hx hb dX6_has_9 (by decide) (fun c_2 => ?_) (fun c_2 => ?_)
    ·
      exact absurd c_2 (by decide)
    ·
      refine lv_iconst (v := 1) hx hb dX6_has_12 (by decide) ?_
      refine lv_goto (tgt := 17) hx hb dX6_has_13 (by decide) ?_
      exact W.zret (v := 1) hx hb hr rfl (fun t ht hW => ⟨⟨1, [(a0, .inr (6, [.int 10, .int 4, .ref a1, .int 1]))], rfl, ⟨rfl, rfl⟩, by rw [ht]; exact hP, hD⟩, hS.F ht⟩) hS.2.2 dX6_has_17
set_option maxHeartbeats 4000000 in
set_option maxRecDepth 100000 in
theorem kX6_set_34 (l : Launch) (G : g5_G) (a0 a1 : Nat) (sz : Nat) : Met l yX6_set (wsG yX6_set cX6_set 4 none) ({ frames := 1, cells := 0, slots := 0, locals := 21 }) (va_Pc [.ref a0, .int 0, .int 0, .int 0] (g5_P G [(a0, .inr (6, [.int 10, .int 4, .ref a1, .int 1])), (a1, .inl (G.2 0, 40, .inl (fun _ => 0)))] sz)) (va_Qv (fun (u : va_W) => ((u = [(a1, .inl (G.2 0, 40, .inl (upd (fun _ => 0) 0 0))), (a0, .inr (6, [.int 10, .int 4, .ref a1, .int 1]))]))) (g5_B G (va_A [(a0, .inr (6, [.int 10, .int 4, .ref a1, .int 1])), (a1, .inl (G.2 0, 40, .inl (fun _ => 0)))] sz)) (va_A [(a0, .inr (6, [.int 10, .int 4, .ref a1, .int 1])), (a1, .inl (G.2 0, 40, .inl (fun _ => 0)))] sz)) 0 0 (va_A [(a0, .inr (6, [.int 10, .int 4, .ref a1, .int 1])), (a1, .inl (G.2 0, 40, .inl (fun _ => 0)))] sz) := by
  refine Met.ofW (cc := cX6_set) (maxL := 4) (ret := none) (by decide) rfl ?_
  intro p e s m args below meth c s₁ B hml hv
  obtain ⟨rfl, hsz, hP, hK, hD0, hN, hT⟩ := hv
  have hx := B.exec
  have hb := B.bytes
  have hr := B.returns
  have hts : ∀ w ∈ tblG, w.before _ s = true := fun w h => atoms_spec (ws := (wsG yX6_set cX6_set 4 none)) B.pre w (List.mem_cons_of_mem _ h)
  have hown : s.vm.findClass RX6 = some m.cls := findClass_of_methodNamed B.named
  have hlocks := B.notSynchronized
  subst hsz
  have hD := hD0.self (sz := s.heap.size)
  generalize hAe : va_A [(a0, .inr (6, [.int 10, .int 4, .ref a1, .int 1])), (a1, .inl (G.2 0, 40, .inl (fun _ => 0)))] s.heap.size = A at hD hT ⊢
  have hA : ∀ q : Nat, s.heap.size ≤ q → A q := fun q h => by rw [← hAe]; exact Or.inr h
  have hS : va_S A s.heap s.heap [] := va_S.rf
  have hP : va_P G.1 vwCl [(a0, .inr (6, [.int 10, .int 4, .ref a1, .int 1])), (a1, .inl (G.2 0, 40, .inl (fun _ => 0)))] s.heap := hP
  have hl := lv_entry ([.ref a0, .int 0, .int 0, .int 0]) (n := 4) (Nat.le_of_ble_eq_true rfl)
  rw [lg_entry_eq]
  generalize (lg_sl ([.ref a0, .int 0, .int 0, .int 0]) ++ List.replicate (4 - (lg_sl ([.ref a0, .int 0, .int 0, .int 0])).length) Slot.unset).toArray = ls at hl ⊢
  have hl : lv_has ls 4 [(0, .ref a0), (1, .int 0), (2, .int 0), (3, .int 0)] := hl
  refine lv_aload_n hx hb dX6_set_0 rfl (lv_at hl 0 rfl) ?_
  refine lv_iload_n hx hb dX6_set_1 rfl (lv_at hl 1 rfl) ?_
  have hPc := hP.sub (ws' := [(a0, .inr (6, [.int 10, .int 4, .ref a1, .int 1]))]) [0] rfl
  have hDc := hD.sub (ws' := [(a0, .inr (6, [.int 10, .int 4, .ref a1, .int 1]))]) [0] (by decide) rfl
  have hFc := va_free (wc := [(a0, .inr (6, [.int 10, .int 4, .ref a1, .int 1]))]) hD hS hA [0] rfl
  refine va_calli (va_runV (As := [.int 0]) (rest := []) ⟨hx, hb, hml, hown, hts⟩ (kX6_has_5 l G a0 a1 s.heap.size) (cwV 1 hts gV_X6_25 rfl rfl rfl hv_X6_has ⟨Nat.le_of_ble_eq_true rfl, Nat.le_of_ble_eq_true rfl⟩) (g5_preV hPc hK hDc hN hT hS hFc (ci := 6) (q0 := 0) rfl rfl) rfl rfl hl.1 rfl (lv_room (Nat.le_of_ble_eq_true rfl)) dX6_set_2 ⟨Nat.le_of_ble_eq_true rfl, Nat.le_of_ble_eq_true rfl⟩) hS (fun q _ h => hFc q h) hFc (fun r u t H1 locs ht hvm hw hB hz1 hk1 hS => ?_)
  obtain ⟨hP1, hD1⟩ := hB
  rw [ht] at hP1
  obtain ⟨rfl, rfl⟩ := hw
  obtain ⟨hP, hD⟩ := va_join (wr := [(a1, .inl (G.2 0, 40, .inl (fun _ => 0)))]) (w1 := [(a0, .inr (6, [.int 10, .int 4, .ref a1, .int 1]))]) hP hD [0] [1] rfl rfl (by decide) (by decide) hk1 hFc hP1 hD1
  generalize H1 = H at hP hS ⊢
  have hP : va_P G.1 vwCl [(a1, .inl (G.2 0, 40, .inl (fun _ => 0))), (a0, .inr (6, [.int 10, .int 4, .ref a1, .int 1]))] H := hP
  have hD : va_D A [(a1, .inl (G.2 0, 40, .inl (fun _ => 0))), (a0, .inr (6, [.int 10, .int 4, .ref a1, .int 1]))] := hD
  refine lv_if_eq (tgt := 34) hx hb dX6_set_5 (by decide) (fun c_1 => ?_) (fun c_1 => ?_)
  ·
    exact absurd c_1 (by decide)
  ·
    refine lv_iload_n hx hb dX6_set_8 rfl (lv_at hl 2 rfl) ?_
    refine lv_if_lt (tgt := 34) hx hb dX6_set_9 (by decide) (fun c_2 => ?_) (fun c_2 => ?_)
    ·
      exact absurd c_2 (by decide)
    ·
      refine lv_iload_n hx hb dX6_set_12 rfl (lv_at hl 2 rfl) ?_
      refine lv_aload_n hx hb dX6_set_13 rfl (lv_at hl 0 rfl) ?_
      refine va_get (D := G.1) (ci := 6) (v := .int 4) (C := RX6) (T := TX6) (N := 4) hx hb hts inG_X6 hown hK hP 1 rfl rfl 1 (by decide) (hts _ fl_X6_18) (fun _ h9 => h9) rfl dX6_set_14 ?_
      refine lv_icmp_ge (tgt := 34) hx hb dX6_set_17 (by decide) (fun c_3 => ?_) (fun c_3 => ?_)
      ·
        exact absurd c_3 (by decide)
      ·
        refine lv_aload_n hx hb dX6_set_20 rfl (lv_at hl 0 rfl) ?_
        refine va_get (D := G.1) (ci := 6) (v := .ref a1) (C := RX6) (T := TX6) (N := 4) hx hb hts inG_X6 hown hK hP 1 rfl rfl 2 (by decide) (hts _ fl_X6_21) (fun _ h9 => h9) rfl dX6_set_21 ?_
        refine lv_iload_n hx hb dX6_set_24 rfl (lv_at hl 1 rfl) ?_
        refine lv_aload_n hx hb dX6_set_25 rfl (lv_at hl 0 rfl) ?_
        refine va_get (D := G.1) (ci := 6) (v := .int 4) (C := RX6) (T := TX6) (N := 4) hx hb hts inG_X6 hown hK hP 1 rfl rfl 1 (by decide) (hts _ fl_X6_18) (fun _ h9 => h9) rfl dX6_set_26 ?_
        refine lv_imul hx hb dX6_set_29 ?_
        refine g5_ti (v := 0) (by decide) ?_
        refine lv_iload_n hx hb dX6_set_30 rfl (lv_at hl 2 rfl) ?_
        refine lv_iadd hx hb dX6_set_31 ?_
        refine g5_ti (v := 0) (by decide) ?_
        refine lv_iload_n hx hb dX6_set_32 rfl (lv_at hl 3 rfl) ?_
        refine va_iast hx hb hK hP hD hS 0 0 rfl rfl (i := 0) (x := 0) (by unfold vp_in; decide) dX6_set_33 (fun H locs hP hD hS => ?_)
        have hP : va_P G.1 vwCl [(a1, .inl (G.2 0, 40, .inl (upd (fun _ => 0) 0 0))), (a0, .inr (6, [.int 10, .int 4, .ref a1, .int 1]))] H := hP
        have hD : va_D A [(a1, .inl (G.2 0, 40, .inl (upd (fun _ => 0) 0 0))), (a0, .inr (6, [.int 10, .int 4, .ref a1, .int 1]))] := hD
        exact W.vret hx hb hr (fun t ht hW => ⟨⟨[(a1, .inl (G.2 0, 40, .inl (upd (fun _ => 0) 0 0))), (a0, .inr (6, [.int 10, .int 4, .ref a1, .int 1]))], rfl, rfl, by rw [ht]; exact hP, hD⟩, hS.F ht⟩) hS.2.2 dX6_set_34
set_option maxHeartbeats 4000000 in
set_option maxRecDepth 100000 in
theorem kX6_set_35 (l : Launch) (G : g5_G) (a0 a1 : Nat) (sz : Nat) : Met l yX6_set (wsG yX6_set cX6_set 4 none) ({ frames := 1, cells := 0, slots := 0, locals := 21 }) (va_Pc [.ref a0, .int 0, .int 1, .int 0] (g5_P G [(a0, .inr (6, [.int 10, .int 4, .ref a1, .int 1])), (a1, .inl (G.2 0, 40, .inl (upd (fun _ => 0) 0 0)))] sz)) (va_Qv (fun (u : va_W) => ((u = [(a1, .inl (G.2 0, 40, .inl (upd (upd (fun _ => 0) 0 0) 1 0))), (a0, .inr (6, [.int 10, .int 4, .ref a1, .int 1]))]))) (g5_B G (va_A [(a0, .inr (6, [.int 10, .int 4, .ref a1, .int 1])), (a1, .inl (G.2 0, 40, .inl (upd (fun _ => 0) 0 0)))] sz)) (va_A [(a0, .inr (6, [.int 10, .int 4, .ref a1, .int 1])), (a1, .inl (G.2 0, 40, .inl (upd (fun _ => 0) 0 0)))] sz)) 0 0 (va_A [(a0, .inr (6, [.int 10, .int 4, .ref a1, .int 1])), (a1, .inl (G.2 0, 40, .inl (upd (fun _ => 0) 0 0)))] sz) := by
  refine Met.ofW (cc := cX6_set) (maxL := 4) (ret := none) (by decide) rfl ?_
  intro p e s m args below meth c s₁ B hml hv
  obtain ⟨rfl, hsz, hP, hK, hD0, hN, hT⟩ := hv
  have hx := B.exec
  have hb := B.bytes
  have hr := B.returns
  have hts : ∀ w ∈ tblG, w.before _ s = true := fun w h => atoms_spec (ws := (wsG yX6_set cX6_set 4 none)) B.pre w (List.mem_cons_of_mem _ h)
  have hown : s.vm.findClass RX6 = some m.cls := findClass_of_methodNamed B.named
  have hlocks := B.notSynchronized
  subst hsz
  have hD := hD0.self (sz := s.heap.size)
  generalize hAe : va_A [(a0, .inr (6, [.int 10, .int 4, .ref a1, .int 1])), (a1, .inl (G.2 0, 40, .inl (upd (fun _ => 0) 0 0)))] s.heap.size = A at hD hT ⊢
  have hA : ∀ q : Nat, s.heap.size ≤ q → A q := fun q h => by rw [← hAe]; exact Or.inr h
  have hS : va_S A s.heap s.heap [] := va_S.rf
  have hP : va_P G.1 vwCl [(a0, .inr (6, [.int 10, .int 4, .ref a1, .int 1])), (a1, .inl (G.2 0, 40, .inl (upd (fun _ => 0) 0 0)))] s.heap := hP
  have hl := lv_entry ([.ref a0, .int 0, .int 1, .int 0]) (n := 4) (Nat.le_of_ble_eq_true rfl)
  rw [lg_entry_eq]
  generalize (lg_sl ([.ref a0, .int 0, .int 1, .int 0]) ++ List.replicate (4 - (lg_sl ([.ref a0, .int 0, .int 1, .int 0])).length) Slot.unset).toArray = ls at hl ⊢
  have hl : lv_has ls 4 [(0, .ref a0), (1, .int 0), (2, .int 1), (3, .int 0)] := hl
  refine lv_aload_n hx hb dX6_set_0 rfl (lv_at hl 0 rfl) ?_
  refine lv_iload_n hx hb dX6_set_1 rfl (lv_at hl 1 rfl) ?_
  have hPc := hP.sub (ws' := [(a0, .inr (6, [.int 10, .int 4, .ref a1, .int 1]))]) [0] rfl
  have hDc := hD.sub (ws' := [(a0, .inr (6, [.int 10, .int 4, .ref a1, .int 1]))]) [0] (by decide) rfl
  have hFc := va_free (wc := [(a0, .inr (6, [.int 10, .int 4, .ref a1, .int 1]))]) hD hS hA [0] rfl
  refine va_calli (va_runV (As := [.int 0]) (rest := []) ⟨hx, hb, hml, hown, hts⟩ (kX6_has_5 l G a0 a1 s.heap.size) (cwV 1 hts gV_X6_25 rfl rfl rfl hv_X6_has ⟨Nat.le_of_ble_eq_true rfl, Nat.le_of_ble_eq_true rfl⟩) (g5_preV hPc hK hDc hN hT hS hFc (ci := 6) (q0 := 0) rfl rfl) rfl rfl hl.1 rfl (lv_room (Nat.le_of_ble_eq_true rfl)) dX6_set_2 ⟨Nat.le_of_ble_eq_true rfl, Nat.le_of_ble_eq_true rfl⟩) hS (fun q _ h => hFc q h) hFc (fun r u t H1 locs ht hvm hw hB hz1 hk1 hS => ?_)
  obtain ⟨hP1, hD1⟩ := hB
  rw [ht] at hP1
  obtain ⟨rfl, rfl⟩ := hw
  obtain ⟨hP, hD⟩ := va_join (wr := [(a1, .inl (G.2 0, 40, .inl (upd (fun _ => 0) 0 0)))]) (w1 := [(a0, .inr (6, [.int 10, .int 4, .ref a1, .int 1]))]) hP hD [0] [1] rfl rfl (by decide) (by decide) hk1 hFc hP1 hD1
  generalize H1 = H at hP hS ⊢
  have hP : va_P G.1 vwCl [(a1, .inl (G.2 0, 40, .inl (upd (fun _ => 0) 0 0))), (a0, .inr (6, [.int 10, .int 4, .ref a1, .int 1]))] H := hP
  have hD : va_D A [(a1, .inl (G.2 0, 40, .inl (upd (fun _ => 0) 0 0))), (a0, .inr (6, [.int 10, .int 4, .ref a1, .int 1]))] := hD
  refine lv_if_eq (tgt := 34) hx hb dX6_set_5 (by decide) (fun c_1 => ?_) (fun c_1 => ?_)
  ·
    exact absurd c_1 (by decide)
  ·
    refine lv_iload_n hx hb dX6_set_8 rfl (lv_at hl 2 rfl) ?_
    refine lv_if_lt (tgt := 34) hx hb dX6_set_9 (by decide) (fun c_2 => ?_) (fun c_2 => ?_)
    ·
      exact absurd c_2 (by decide)
    ·
      refine lv_iload_n hx hb dX6_set_12 rfl (lv_at hl 2 rfl) ?_
      refine lv_aload_n hx hb dX6_set_13 rfl (lv_at hl 0 rfl) ?_
      refine va_get (D := G.1) (ci := 6) (v := .int 4) (C := RX6) (T := TX6) (N := 4) hx hb hts inG_X6 hown hK hP 1 rfl rfl 1 (by decide) (hts _ fl_X6_18) (fun _ h9 => h9) rfl dX6_set_14 ?_
      refine lv_icmp_ge (tgt := 34) hx hb dX6_set_17 (by decide) (fun c_3 => ?_) (fun c_3 => ?_)
      ·
        exact absurd c_3 (by decide)
      ·
        refine lv_aload_n hx hb dX6_set_20 rfl (lv_at hl 0 rfl) ?_
        refine va_get (D := G.1) (ci := 6) (v := .ref a1) (C := RX6) (T := TX6) (N := 4) hx hb hts inG_X6 hown hK hP 1 rfl rfl 2 (by decide) (hts _ fl_X6_21) (fun _ h9 => h9) rfl dX6_set_21 ?_
        refine lv_iload_n hx hb dX6_set_24 rfl (lv_at hl 1 rfl) ?_
        refine lv_aload_n hx hb dX6_set_25 rfl (lv_at hl 0 rfl) ?_
        refine va_get (D := G.1) (ci := 6) (v := .int 4) (C := RX6) (T := TX6) (N := 4) hx hb hts inG_X6 hown hK hP 1 rfl rfl 1 (by decide) (hts _ fl_X6_18) (fun _ h9 => h9) rfl dX6_set_26 ?_
        refine lv_imul hx hb dX6_set_29 ?_
        refine g5_ti (v := 0) (by decide) ?_
        refine lv_iload_n hx hb dX6_set_30 rfl (lv_at hl 2 rfl) ?_
        refine lv_iadd hx hb dX6_set_31 ?_
        refine g5_ti (v := 1) (by decide) ?_
        refine lv_iload_n hx hb dX6_set_32 rfl (lv_at hl 3 rfl) ?_
        refine va_iast hx hb hK hP hD hS 0 0 rfl rfl (i := 1) (x := 0) (by unfold vp_in; decide) dX6_set_33 (fun H locs hP hD hS => ?_)
        have hP : va_P G.1 vwCl [(a1, .inl (G.2 0, 40, .inl (upd (upd (fun _ => 0) 0 0) 1 0))), (a0, .inr (6, [.int 10, .int 4, .ref a1, .int 1]))] H := hP
        have hD : va_D A [(a1, .inl (G.2 0, 40, .inl (upd (upd (fun _ => 0) 0 0) 1 0))), (a0, .inr (6, [.int 10, .int 4, .ref a1, .int 1]))] := hD
        exact W.vret hx hb hr (fun t ht hW => ⟨⟨[(a1, .inl (G.2 0, 40, .inl (upd (upd (fun _ => 0) 0 0) 1 0))), (a0, .inr (6, [.int 10, .int 4, .ref a1, .int 1]))], rfl, rfl, by rw [ht]; exact hP, hD⟩, hS.F ht⟩) hS.2.2 dX6_set_34
set_option maxHeartbeats 4000000 in
set_option maxRecDepth 100000 in
theorem kX6_set_36 (l : Launch) (G : g5_G) (a0 a1 : Nat) (sz : Nat) : Met l yX6_set (wsG yX6_set cX6_set 4 none) ({ frames := 1, cells := 0, slots := 0, locals := 21 }) (va_Pc [.ref a0, .int 0, .int 2, .int 0] (g5_P G [(a0, .inr (6, [.int 10, .int 4, .ref a1, .int 1])), (a1, .inl (G.2 0, 40, .inl (upd (upd (fun _ => 0) 0 0) 1 0)))] sz)) (va_Qv (fun (u : va_W) => ((u = [(a1, .inl (G.2 0, 40, .inl (upd (upd (upd (fun _ => 0) 0 0) 1 0) 2 0))), (a0, .inr (6, [.int 10, .int 4, .ref a1, .int 1]))]))) (g5_B G (va_A [(a0, .inr (6, [.int 10, .int 4, .ref a1, .int 1])), (a1, .inl (G.2 0, 40, .inl (upd (upd (fun _ => 0) 0 0) 1 0)))] sz)) (va_A [(a0, .inr (6, [.int 10, .int 4, .ref a1, .int 1])), (a1, .inl (G.2 0, 40, .inl (upd (upd (fun _ => 0) 0 0) 1 0)))] sz)) 0 0 (va_A [(a0, .inr (6, [.int 10, .int 4, .ref a1, .int 1])), (a1, .inl (G.2 0, 40, .inl (upd (upd (fun _ => 0) 0 0) 1 0)))] sz) := by
  refine Met.ofW (cc := cX6_set) (maxL := 4) (ret := none) (by decide) rfl ?_
  intro p e s m args below meth c s₁ B hml hv
  obtain ⟨rfl, hsz, hP, hK, hD0, hN, hT⟩ := hv
  have hx := B.exec
  have hb := B.bytes
  have hr := B.returns
  have hts : ∀ w ∈ tblG, w.before _ s = true := fun w h => atoms_spec (ws := (wsG yX6_set cX6_set 4 none)) B.pre w (List.mem_cons_of_mem _ h)
  have hown : s.vm.findClass RX6 = some m.cls := findClass_of_methodNamed B.named
  have hlocks := B.notSynchronized
  subst hsz
  have hD := hD0.self (sz := s.heap.size)
  generalize hAe : va_A [(a0, .inr (6, [.int 10, .int 4, .ref a1, .int 1])), (a1, .inl (G.2 0, 40, .inl (upd (upd (fun _ => 0) 0 0) 1 0)))] s.heap.size = A at hD hT ⊢
  have hA : ∀ q : Nat, s.heap.size ≤ q → A q := fun q h => by rw [← hAe]; exact Or.inr h
  have hS : va_S A s.heap s.heap [] := va_S.rf
  have hP : va_P G.1 vwCl [(a0, .inr (6, [.int 10, .int 4, .ref a1, .int 1])), (a1, .inl (G.2 0, 40, .inl (upd (upd (fun _ => 0) 0 0) 1 0)))] s.heap := hP
  have hl := lv_entry ([.ref a0, .int 0, .int 2, .int 0]) (n := 4) (Nat.le_of_ble_eq_true rfl)
  rw [lg_entry_eq]
  generalize (lg_sl ([.ref a0, .int 0, .int 2, .int 0]) ++ List.replicate (4 - (lg_sl ([.ref a0, .int 0, .int 2, .int 0])).length) Slot.unset).toArray = ls at hl ⊢
  have hl : lv_has ls 4 [(0, .ref a0), (1, .int 0), (2, .int 2), (3, .int 0)] := hl
  refine lv_aload_n hx hb dX6_set_0 rfl (lv_at hl 0 rfl) ?_
  refine lv_iload_n hx hb dX6_set_1 rfl (lv_at hl 1 rfl) ?_
  have hPc := hP.sub (ws' := [(a0, .inr (6, [.int 10, .int 4, .ref a1, .int 1]))]) [0] rfl
  have hDc := hD.sub (ws' := [(a0, .inr (6, [.int 10, .int 4, .ref a1, .int 1]))]) [0] (by decide) rfl
  have hFc := va_free (wc := [(a0, .inr (6, [.int 10, .int 4, .ref a1, .int 1]))]) hD hS hA [0] rfl
  refine va_calli (va_runV (As := [.int 0]) (rest := []) ⟨hx, hb, hml, hown, hts⟩ (kX6_has_5 l G a0 a1 s.heap.size) (cwV 1 hts gV_X6_25 rfl rfl rfl hv_X6_has ⟨Nat.le_of_ble_eq_true rfl, Nat.le_of_ble_eq_true rfl⟩) (g5_preV hPc hK hDc hN hT hS hFc (ci := 6) (q0 := 0) rfl rfl) rfl rfl hl.1 rfl (lv_room (Nat.le_of_ble_eq_true rfl)) dX6_set_2 ⟨Nat.le_of_ble_eq_true rfl, Nat.le_of_ble_eq_true rfl⟩) hS (fun q _ h => hFc q h) hFc (fun r u t H1 locs ht hvm hw hB hz1 hk1 hS => ?_)
  obtain ⟨hP1, hD1⟩ := hB
  rw [ht] at hP1
  obtain ⟨rfl, rfl⟩ := hw
  obtain ⟨hP, hD⟩ := va_join (wr := [(a1, .inl (G.2 0, 40, .inl (upd (upd (fun _ => 0) 0 0) 1 0)))]) (w1 := [(a0, .inr (6, [.int 10, .int 4, .ref a1, .int 1]))]) hP hD [0] [1] rfl rfl (by decide) (by decide) hk1 hFc hP1 hD1
  generalize H1 = H at hP hS ⊢
  have hP : va_P G.1 vwCl [(a1, .inl (G.2 0, 40, .inl (upd (upd (fun _ => 0) 0 0) 1 0))), (a0, .inr (6, [.int 10, .int 4, .ref a1, .int 1]))] H := hP
  have hD : va_D A [(a1, .inl (G.2 0, 40, .inl (upd (upd (fun _ => 0) 0 0) 1 0))), (a0, .inr (6, [.int 10, .int 4, .ref a1, .int 1]))] := hD
  refine lv_if_eq (tgt := 34) hx hb dX6_set_5 (by decide) (fun c_1 => ?_) (fun c_1 => ?_)
  ·
    exact absurd c_1 (by decide)
  ·
    refine lv_iload_n hx hb dX6_set_8 rfl (lv_at hl 2 rfl) ?_
    refine lv_if_lt (tgt := 34) hx hb dX6_set_9 (by decide) (fun c_2 => ?_) (fun c_2 => ?_)
    ·
      exact absurd c_2 (by decide)
    ·
      refine lv_iload_n hx hb dX6_set_12 rfl (lv_at hl 2 rfl) ?_
      refine lv_aload_n hx hb dX6_set_13 rfl (lv_at hl 0 rfl) ?_
      refine va_get (D := G.1) (ci := 6) (v := .int 4) (C := RX6) (T := TX6) (N := 4) hx hb hts inG_X6 hown hK hP 1 rfl rfl 1 (by decide) (hts _ fl_X6_18) (fun _ h9 => h9) rfl dX6_set_14 ?_
      refine lv_icmp_ge (tgt := 34) hx hb dX6_set_17 (by decide) (fun c_3 => ?_) (fun c_3 => ?_)
      ·
        exact absurd c_3 (by decide)
      ·
        refine lv_aload_n hx hb dX6_set_20 rfl (lv_at hl 0 rfl) ?_
        refine va_get (D := G.1) (ci := 6) (v := .ref a1) (C := RX6) (T := TX6) (N := 4) hx hb hts inG_X6 hown hK hP 1 rfl rfl 2 (by decide) (hts _ fl_X6_21) (fun _ h9 => h9) rfl dX6_set_21 ?_
        refine lv_iload_n hx hb dX6_set_24 rfl (lv_at hl 1 rfl) ?_
        refine lv_aload_n hx hb dX6_set_25 rfl (lv_at hl 0 rfl) ?_
        refine va_get (D := G.1) (ci := 6) (v := .int 4) (C := RX6) (T := TX6) (N := 4) hx hb hts inG_X6 hown hK hP 1 rfl rfl 1 (by decide) (hts _ fl_X6_18) (fun _ h9 => h9) rfl dX6_set_26 ?_
        refine lv_imul hx hb dX6_set_29 ?_
        refine g5_ti (v := 0) (by decide) ?_
        refine lv_iload_n hx hb dX6_set_30 rfl (lv_at hl 2 rfl) ?_
        refine lv_iadd hx hb dX6_set_31 ?_
        refine g5_ti (v := 2) (by decide) ?_
        refine lv_iload_n hx hb dX6_set_32 rfl (lv_at hl 3 rfl) ?_
        refine va_iast hx hb hK hP hD hS 0 0 rfl rfl (i := 2) (x := 0) (by unfold vp_in; decide) dX6_set_33 (fun H locs hP hD hS => ?_)
        have hP : va_P G.1 vwCl [(a1, .inl (G.2 0, 40, .inl (upd (upd (upd (fun _ => 0) 0 0) 1 0) 2 0))), (a0, .inr (6, [.int 10, .int 4, .ref a1, .int 1]))] H := hP
        have hD : va_D A [(a1, .inl (G.2 0, 40, .inl (upd (upd (upd (fun _ => 0) 0 0) 1 0) 2 0))), (a0, .inr (6, [.int 10, .int 4, .ref a1, .int 1]))] := hD
        exact W.vret hx hb hr (fun t ht hW => ⟨⟨[(a1, .inl (G.2 0, 40, .inl (upd (upd (upd (fun _ => 0) 0 0) 1 0) 2 0))), (a0, .inr (6, [.int 10, .int 4, .ref a1, .int 1]))], rfl, rfl, by rw [ht]; exact hP, hD⟩, hS.F ht⟩) hS.2.2 dX6_set_34
set_option maxHeartbeats 4000000 in
set_option maxRecDepth 100000 in
theorem kX6_set_37 (l : Launch) (G : g5_G) (a0 a1 : Nat) (sz : Nat) : Met l yX6_set (wsG yX6_set cX6_set 4 none) ({ frames := 1, cells := 0, slots := 0, locals := 21 }) (va_Pc [.ref a0, .int 0, .int 3, .int 0] (g5_P G [(a0, .inr (6, [.int 10, .int 4, .ref a1, .int 1])), (a1, .inl (G.2 0, 40, .inl (upd (upd (upd (fun _ => 0) 0 0) 1 0) 2 0)))] sz)) (va_Qv (fun (u : va_W) => ((u = [(a1, .inl (G.2 0, 40, .inl (upd (upd (upd (upd (fun _ => 0) 0 0) 1 0) 2 0) 3 0))), (a0, .inr (6, [.int 10, .int 4, .ref a1, .int 1]))]))) (g5_B G (va_A [(a0, .inr (6, [.int 10, .int 4, .ref a1, .int 1])), (a1, .inl (G.2 0, 40, .inl (upd (upd (upd (fun _ => 0) 0 0) 1 0) 2 0)))] sz)) (va_A [(a0, .inr (6, [.int 10, .int 4, .ref a1, .int 1])), (a1, .inl (G.2 0, 40, .inl (upd (upd (upd (fun _ => 0) 0 0) 1 0) 2 0)))] sz)) 0 0 (va_A [(a0, .inr (6, [.int 10, .int 4, .ref a1, .int 1])), (a1, .inl (G.2 0, 40, .inl (upd (upd (upd (fun _ => 0) 0 0) 1 0) 2 0)))] sz) := by
  refine Met.ofW (cc := cX6_set) (maxL := 4) (ret := none) (by decide) rfl ?_
  intro p e s m args below meth c s₁ B hml hv
  obtain ⟨rfl, hsz, hP, hK, hD0, hN, hT⟩ := hv
  have hx := B.exec
  have hb := B.bytes
  have hr := B.returns
  have hts : ∀ w ∈ tblG, w.before _ s = true := fun w h => atoms_spec (ws := (wsG yX6_set cX6_set 4 none)) B.pre w (List.mem_cons_of_mem _ h)
  have hown : s.vm.findClass RX6 = some m.cls := findClass_of_methodNamed B.named
  have hlocks := B.notSynchronized
  subst hsz
  have hD := hD0.self (sz := s.heap.size)
  generalize hAe : va_A [(a0, .inr (6, [.int 10, .int 4, .ref a1, .int 1])), (a1, .inl (G.2 0, 40, .inl (upd (upd (upd (fun _ => 0) 0 0) 1 0) 2 0)))] s.heap.size = A at hD hT ⊢
  have hA : ∀ q : Nat, s.heap.size ≤ q → A q := fun q h => by rw [← hAe]; exact Or.inr h
  have hS : va_S A s.heap s.heap [] := va_S.rf
  have hP : va_P G.1 vwCl [(a0, .inr (6, [.int 10, .int 4, .ref a1, .int 1])), (a1, .inl (G.2 0, 40, .inl (upd (upd (upd (fun _ => 0) 0 0) 1 0) 2 0)))] s.heap := hP
  have hl := lv_entry ([.ref a0, .int 0, .int 3, .int 0]) (n := 4) (Nat.le_of_ble_eq_true rfl)
  rw [lg_entry_eq]
  generalize (lg_sl ([.ref a0, .int 0, .int 3, .int 0]) ++ List.replicate (4 - (lg_sl ([.ref a0, .int 0, .int 3, .int 0])).length) Slot.unset).toArray = ls at hl ⊢
  have hl : lv_has ls 4 [(0, .ref a0), (1, .int 0), (2, .int 3), (3, .int 0)] := hl
  refine lv_aload_n hx hb dX6_set_0 rfl (lv_at hl 0 rfl) ?_
  refine lv_iload_n hx hb dX6_set_1 rfl (lv_at hl 1 rfl) ?_
  have hPc := hP.sub (ws' := [(a0, .inr (6, [.int 10, .int 4, .ref a1, .int 1]))]) [0] rfl
  have hDc := hD.sub (ws' := [(a0, .inr (6, [.int 10, .int 4, .ref a1, .int 1]))]) [0] (by decide) rfl
  have hFc := va_free (wc := [(a0, .inr (6, [.int 10, .int 4, .ref a1, .int 1]))]) hD hS hA [0] rfl
  refine va_calli (va_runV (As := [.int 0]) (rest := []) ⟨hx, hb, hml, hown, hts⟩ (kX6_has_5 l G a0 a1 s.heap.size) (cwV 1 hts gV_X6_25 rfl rfl rfl hv_X6_has ⟨Nat.le_of_ble_eq_true rfl, Nat.le_of_ble_eq_true rfl⟩) (g5_preV hPc hK hDc hN hT hS hFc (ci := 6) (q0 := 0) rfl rfl) rfl rfl hl.1 rfl (lv_room (Nat.le_of_ble_eq_true rfl)) dX6_set_2 ⟨Nat.le_of_ble_eq_true rfl, Nat.le_of_ble_eq_true rfl⟩) hS (fun q _ h => hFc q h) hFc (fun r u t H1 locs ht hvm hw hB hz1 hk1 hS => ?_)
  obtain ⟨hP1, hD1⟩ := hB
  rw [ht] at hP1
  obtain ⟨rfl, rfl⟩ := hw
  obtain ⟨hP, hD⟩ := va_join (wr := [(a1, .inl (G.2 0, 40, .inl (upd (upd (upd (fun _ => 0) 0 0) 1 0) 2 0)))]) (w1 := [(a0, .inr (6, [.int 10, .int 4, .ref a1, .int 1]))]) hP hD [0] [1] rfl rfl (by decide) (by decide) hk1 hFc hP1 hD1
  generalize H1 = H at hP hS ⊢
  have hP : va_P G.1 vwCl [(a1, .inl (G.2 0, 40, .inl (upd (upd (upd (fun _ => 0) 0 0) 1 0) 2 0))), (a0, .inr (6, [.int 10, .int 4, .ref a1, .int 1]))] H := hP
  have hD : va_D A [(a1, .inl (G.2 0, 40, .inl (upd (upd (upd (fun _ => 0) 0 0) 1 0) 2 0))), (a0, .inr (6, [.int 10, .int 4, .ref a1, .int 1]))] := hD
  refine lv_if_eq (tgt := 34) hx hb dX6_set_5 (by decide) (fun c_1 => ?_) (fun c_1 => ?_)
  ·
    exact absurd c_1 (by decide)
  ·
    refine lv_iload_n hx hb dX6_set_8 rfl (lv_at hl 2 rfl) ?_
    refine lv_if_lt (tgt := 34) hx hb dX6_set_9 (by decide) (fun c_2 => ?_) (fun c_2 => ?_)
    ·
      exact absurd c_2 (by decide)
    ·
      refine lv_iload_n hx hb dX6_set_12 rfl (lv_at hl 2 rfl) ?_
      refine lv_aload_n hx hb dX6_set_13 rfl (lv_at hl 0 rfl) ?_
      refine va_get (D := G.1) (ci := 6) (v := .int 4) (C := RX6) (T := TX6) (N := 4) hx hb hts inG_X6 hown hK hP 1 rfl rfl 1 (by decide) (hts _ fl_X6_18) (fun _ h9 => h9) rfl dX6_set_14 ?_
      refine lv_icmp_ge (tgt := 34) hx hb dX6_set_17 (by decide) (fun c_3 => ?_) (fun c_3 => ?_)
      ·
        exact absurd c_3 (by decide)
      ·
        refine lv_aload_n hx hb dX6_set_20 rfl (lv_at hl 0 rfl) ?_
        refine va_get (D := G.1) (ci := 6) (v := .ref a1) (C := RX6) (T := TX6) (N := 4) hx hb hts inG_X6 hown hK hP 1 rfl rfl 2 (by decide) (hts _ fl_X6_21) (fun _ h9 => h9) rfl dX6_set_21 ?_
        refine lv_iload_n hx hb dX6_set_24 rfl (lv_at hl 1 rfl) ?_
        refine lv_aload_n hx hb dX6_set_25 rfl (lv_at hl 0 rfl) ?_
        refine va_get (D := G.1) (ci := 6) (v := .int 4) (C := RX6) (T := TX6) (N := 4) hx hb hts inG_X6 hown hK hP 1 rfl rfl 1 (by decide) (hts _ fl_X6_18) (fun _ h9 => h9) rfl dX6_set_26 ?_
        refine lv_imul hx hb dX6_set_29 ?_
        refine g5_ti (v := 0) (by decide) ?_
        refine lv_iload_n hx hb dX6_set_30 rfl (lv_at hl 2 rfl) ?_
        refine lv_iadd hx hb dX6_set_31 ?_
        refine g5_ti (v := 3) (by decide) ?_
        refine lv_iload_n hx hb dX6_set_32 rfl (lv_at hl 3 rfl) ?_
        refine va_iast hx hb hK hP hD hS 0 0 rfl rfl (i := 3) (x := 0) (by unfold vp_in; decide) dX6_set_33 (fun H locs hP hD hS => ?_)
        have hP : va_P G.1 vwCl [(a1, .inl (G.2 0, 40, .inl (upd (upd (upd (upd (fun _ => 0) 0 0) 1 0) 2 0) 3 0))), (a0, .inr (6, [.int 10, .int 4, .ref a1, .int 1]))] H := hP
        have hD : va_D A [(a1, .inl (G.2 0, 40, .inl (upd (upd (upd (upd (fun _ => 0) 0 0) 1 0) 2 0) 3 0))), (a0, .inr (6, [.int 10, .int 4, .ref a1, .int 1]))] := hD
        exact W.vret hx hb hr (fun t ht hW => ⟨⟨[(a1, .inl (G.2 0, 40, .inl (upd (upd (upd (upd (fun _ => 0) 0 0) 1 0) 2 0) 3 0))), (a0, .inr (6, [.int 10, .int 4, .ref a1, .int 1]))], rfl, rfl, by rw [ht]; exact hP, hD⟩, hS.F ht⟩) hS.2.2 dX6_set_34
set_option maxHeartbeats 4000000 in
set_option maxRecDepth 100000 in
theorem kX6_open_3 (l : Launch) (G : g5_G) (a0 a1 : Nat) (sz : Nat) : Met l yX6_open (wsG yX6_open cX6_open 4 (some .int)) ({ frames := 2, cells := 0, slots := 0, locals := 44 }) (va_Pc [.ref a0, .int 0] (g5_P G [(a0, .inr (6, [.int 10, .int 4, .ref a1, .int 0])), (a1, .inl (G.2 0, 40, .inl (fun _ => 0)))] sz)) (va_Qi (fun (r : Int32) (u : va_W) => ((r = 0) ∧ (u = [(a1, .inl (G.2 0, 40, .inl (upd (upd (upd (upd (fun _ => 0) 0 0) 1 0) 2 0) 3 0))), (a0, .inr (6, [.int 10, .int 4, .ref a1, .int 1]))]))) (g5_B G (va_A [(a0, .inr (6, [.int 10, .int 4, .ref a1, .int 0])), (a1, .inl (G.2 0, 40, .inl (fun _ => 0)))] sz)) (va_A [(a0, .inr (6, [.int 10, .int 4, .ref a1, .int 0])), (a1, .inl (G.2 0, 40, .inl (fun _ => 0)))] sz)) 0 0 (va_A [(a0, .inr (6, [.int 10, .int 4, .ref a1, .int 0])), (a1, .inl (G.2 0, 40, .inl (fun _ => 0)))] sz) := by
  refine Met.ofW (cc := cX6_open) (maxL := 4) (ret := (some .int)) (by decide) rfl ?_
  intro p e s m args below meth c s₁ B hml hv
  obtain ⟨rfl, hsz, hP, hK, hD0, hN, hT⟩ := hv
  have hx := B.exec
  have hb := B.bytes
  have hr := B.returns
  have hts : ∀ w ∈ tblG, w.before _ s = true := fun w h => atoms_spec (ws := (wsG yX6_open cX6_open 4 (some .int))) B.pre w (List.mem_cons_of_mem _ h)
  have hown : s.vm.findClass RX6 = some m.cls := findClass_of_methodNamed B.named
  have hlocks := B.notSynchronized
  subst hsz
  have hD := hD0.self (sz := s.heap.size)
  generalize hAe : va_A [(a0, .inr (6, [.int 10, .int 4, .ref a1, .int 0])), (a1, .inl (G.2 0, 40, .inl (fun _ => 0)))] s.heap.size = A at hD hT ⊢
  have hA : ∀ q : Nat, s.heap.size ≤ q → A q := fun q h => by rw [← hAe]; exact Or.inr h
  have hS : va_S A s.heap s.heap [] := va_S.rf
  have hP : va_P G.1 vwCl [(a0, .inr (6, [.int 10, .int 4, .ref a1, .int 0])), (a1, .inl (G.2 0, 40, .inl (fun _ => 0)))] s.heap := hP
  have hl := lv_entry ([.ref a0, .int 0]) (n := 4) (Nat.le_of_ble_eq_true rfl)
  rw [lg_entry_eq]
  generalize (lg_sl ([.ref a0, .int 0]) ++ List.replicate (4 - (lg_sl ([.ref a0, .int 0])).length) Slot.unset).toArray = ls at hl ⊢
  have hl : lv_has ls 4 [(0, .ref a0), (1, .int 0)] := hl
  refine lv_aload_n hx hb dX6_open_0 rfl (lv_at hl 0 rfl) ?_
  have hPc := hP.sub (ws' := [(a0, .inr (6, [.int 10, .int 4, .ref a1, .int 0]))]) [0] rfl
  have hDc := hD.sub (ws' := [(a0, .inr (6, [.int 10, .int 4, .ref a1, .int 0]))]) [0] (by decide) rfl
  have hFc := va_free (wc := [(a0, .inr (6, [.int 10, .int 4, .ref a1, .int 0]))]) hD hS hA [0] rfl
  refine va_calli (va_runV (As := []) (rest := []) ⟨hx, hb, hml, hown, hts⟩ (kX6_isFull_3 l G a0 a1 s.heap.size) (cwV 0 hts gV_X6_33 rfl rfl rfl hv_X6_isFull ⟨Nat.le_of_ble_eq_true rfl, Nat.le_of_ble_eq_true rfl⟩) (g5_preV hPc hK hDc hN hT hS hFc (ci := 6) (q0 := 0) rfl rfl) rfl rfl hl.1 rfl (lv_room (Nat.le_of_ble_eq_true rfl)) dX6_open_1 ⟨Nat.le_of_ble_eq_true rfl, Nat.le_of_ble_eq_true rfl⟩) hS (fun q _ h => hFc q h) hFc (fun r u t H1 locs ht hvm hw hB hz1 hk1 hS => ?_)
  obtain ⟨hP1, hD1⟩ := hB
  rw [ht] at hP1
  obtain ⟨rfl, rfl⟩ := hw
  obtain ⟨hP, hD⟩ := va_join (wr := [(a1, .inl (G.2 0, 40, .inl (fun _ => 0)))]) (w1 := [(a0, .inr (6, [.int 10, .int 4, .ref a1, .int 0]))]) hP hD [0] [1] rfl rfl (by decide) (by decide) hk1 hFc hP1 hD1
  generalize H1 = H at hP hS ⊢
  have hP : va_P G.1 vwCl [(a1, .inl (G.2 0, 40, .inl (fun _ => 0))), (a0, .inr (6, [.int 10, .int 4, .ref a1, .int 0]))] H := hP
  have hD : va_D A [(a1, .inl (G.2 0, 40, .inl (fun _ => 0))), (a0, .inr (6, [.int 10, .int 4, .ref a1, .int 0]))] := hD
  refine lv_if_eq (tgt := 9) hx hb dX6_open_4 (by decide) (fun c_1 => ?_) (fun c_1 => ?_)
  ·
    refine lv_aload_n hx hb dX6_open_9 rfl (lv_at hl 0 rfl) ?_
    refine va_get (D := G.1) (ci := 6) (v := .int 0) (C := RX6) (T := TX6) (N := 4) hx hb hts inG_X6 hown hK hP 1 rfl rfl 3 (by decide) (hts _ fl_X6_9) (fun _ h9 => h9) rfl dX6_open_10 ?_
    refine lv_istore_n (lv' := [(2, .int 0), (0, .ref a0), (1, .int 0)]) hx hb dX6_open_13 rfl hl (by decide) rfl (fun ls hl => ?_)
    refine lv_aload_n hx hb dX6_open_14 rfl (lv_at hl 1 rfl) ?_
    refine lv_dup hx hb dX6_open_15 rfl ?_
    refine va_get (D := G.1) (ci := 6) (v := .int 0) (C := RX6) (T := TX6) (N := 4) hx hb hts inG_X6 hown hK hP 1 rfl rfl 3 (by decide) (hts _ fl_X6_9) (fun _ h9 => h9) rfl dX6_open_16 ?_
    refine lv_iconst (v := 1) hx hb dX6_open_19 (by decide) ?_
    refine lv_iadd hx hb dX6_open_20 ?_
    refine g5_ti (v := 1) (by decide) ?_
    refine va_put (D := G.1) (ci := 6) (v := .int 1) (ty := .int) (C := RX6) (T := TX6) (N := 4) hx hb hts inG_X6 tyX6 tyX6_ok nmX6 hown hK hP hD hS 1 rfl rfl 3 (by decide) (hts _ fl_X6_9) (fun _ h9 => h9) rfl (by decide +kernel) rfl rfl (Nat.le_of_ble_eq_true rfl) dX6_open_21 (fun H locs hP hD hS => ?_)
    have hP : va_P G.1 vwCl [(a1, .inl (G.2 0, 40, .inl (fun _ => 0))), (a0, .inr (6, [.int 10, .int 4, .ref a1, .int 1]))] H := hP
    have hD : va_D A [(a1, .inl (G.2 0, 40, .inl (fun _ => 0))), (a0, .inr (6, [.int 10, .int 4, .ref a1, .int 1]))] := hD
    refine lv_iconst (v := 0) hx hb dX6_open_24 (by decide) ?_
    refine lv_istore_n (lv' := [(3, .int 0), (2, .int 0), (0, .ref a0), (1, .int 0)]) hx hb dX6_open_25 rfl hl (by decide) rfl (fun ls hl => ?_)
    refine lv_iload_n hx hb dX6_open_26 rfl (lv_at hl 0 rfl) ?_
    refine lv_aload_n hx hb dX6_open_27 rfl (lv_at hl 2 rfl) ?_
    refine va_get (D := G.1) (ci := 6) (v := .int 4) (C := RX6) (T := TX6) (N := 4) hx hb hts inG_X6 hown hK hP 1 rfl rfl 1 (by decide) (hts _ fl_X6_18) (fun _ h9 => h9) rfl dX6_open_28 ?_
    refine lv_icmp_ge (tgt := 47) hx hb dX6_open_31 (by decide) (fun c_2 => ?_) (fun c_2 => ?_)
    ·
      exact absurd c_2 (by decide)
    ·
      refine lv_aload_n hx hb dX6_open_34 rfl (lv_at hl 2 rfl) ?_
      refine lv_iload_n hx hb dX6_open_35 rfl (lv_at hl 1 rfl) ?_
      refine lv_iload_n hx hb dX6_open_36 rfl (lv_at hl 0 rfl) ?_
      refine lv_iload_n hx hb dX6_open_37 rfl (lv_at hl 3 rfl) ?_
      have hPc := hP.sub (ws' := [(a0, .inr (6, [.int 10, .int 4, .ref a1, .int 1])), (a1, .inl (G.2 0, 40, .inl (fun _ => 0)))]) [1, 0] rfl
      have hDc := hD.sub (ws' := [(a0, .inr (6, [.int 10, .int 4, .ref a1, .int 1])), (a1, .inl (G.2 0, 40, .inl (fun _ => 0)))]) [1, 0] (by decide) rfl
      have hFc := va_free (wc := [(a0, .inr (6, [.int 10, .int 4, .ref a1, .int 1])), (a1, .inl (G.2 0, 40, .inl (fun _ => 0)))]) hD hS hA [1, 0] rfl
      refine va_callv (va_runV (As := [.int 0, .int 0, .int 0]) (rest := []) ⟨hx, hb, hml, hown, hts⟩ (kX6_set_34 l G a0 a1 H.size) (cwV 3 hts gV_X6_29 rfl rfl rfl hv_X6_set ⟨Nat.le_of_ble_eq_true rfl, Nat.le_of_ble_eq_true rfl⟩) (g5_preV hPc hK hDc hN hT hS hFc (ci := 6) (q0 := 0) rfl rfl) rfl rfl hl.1 rfl (lv_room (Nat.le_of_ble_eq_true rfl)) dX6_open_38 ⟨Nat.le_of_ble_eq_true rfl, Nat.le_of_ble_eq_true rfl⟩) hS (fun q _ h => hFc q h) hFc (fun u t H1 locs ht hvm hw hB hz1 hk1 hS => ?_)
      obtain ⟨hP1, hD1⟩ := hB
      rw [ht] at hP1
      obtain rfl := hw
      obtain ⟨hP, hD⟩ := va_join (wr := []) (w1 := [(a1, .inl (G.2 0, 40, .inl (upd (fun _ => 0) 0 0))), (a0, .inr (6, [.int 10, .int 4, .ref a1, .int 1]))]) hP hD [1, 0] [] rfl rfl (by decide) (by decide) hk1 hFc hP1 hD1
      generalize H1 = H at hP hS ⊢
      have hP : va_P G.1 vwCl [(a1, .inl (G.2 0, 40, .inl (upd (fun _ => 0) 0 0))), (a0, .inr (6, [.int 10, .int 4, .ref a1, .int 1]))] H := hP
      have hD : va_D A [(a1, .inl (G.2 0, 40, .inl (upd (fun _ => 0) 0 0))), (a0, .inr (6, [.int 10, .int 4, .ref a1, .int 1]))] := hD
      refine lv_iinc (v := 1) (lv' := [(3, .int 1), (2, .int 0), (0, .ref a0), (1, .int 0)]) hx hb dX6_open_41 hl (k := 0) rfl (by decide) (by decide) rfl (fun ls hl => ?_)
      refine lv_goto (tgt := 26) hx hb dX6_open_44 (by decide) ?_
      refine lv_iload_n hx hb dX6_open_26 rfl (lv_at hl 0 rfl) ?_
      refine lv_aload_n hx hb dX6_open_27 rfl (lv_at hl 2 rfl) ?_
      refine va_get (D := G.1) (ci := 6) (v := .int 4) (C := RX6) (T := TX6) (N := 4) hx hb hts inG_X6 hown hK hP 1 rfl rfl 1 (by decide) (hts _ fl_X6_18) (fun _ h9 => h9) rfl dX6_open_28 ?_
      refine lv_icmp_ge (tgt := 47) hx hb dX6_open_31 (by decide) (fun c_3 => ?_) (fun c_3 => ?_)
      ·
        exact absurd c_3 (by decide)
      ·
        refine lv_aload_n hx hb dX6_open_34 rfl (lv_at hl 2 rfl) ?_
        refine lv_iload_n hx hb dX6_open_35 rfl (lv_at hl 1 rfl) ?_
        refine lv_iload_n hx hb dX6_open_36 rfl (lv_at hl 0 rfl) ?_
        refine lv_iload_n hx hb dX6_open_37 rfl (lv_at hl 3 rfl) ?_
        have hPc := hP.sub (ws' := [(a0, .inr (6, [.int 10, .int 4, .ref a1, .int 1])), (a1, .inl (G.2 0, 40, .inl (upd (fun _ => 0) 0 0)))]) [1, 0] rfl
        have hDc := hD.sub (ws' := [(a0, .inr (6, [.int 10, .int 4, .ref a1, .int 1])), (a1, .inl (G.2 0, 40, .inl (upd (fun _ => 0) 0 0)))]) [1, 0] (by decide) rfl
        have hFc := va_free (wc := [(a0, .inr (6, [.int 10, .int 4, .ref a1, .int 1])), (a1, .inl (G.2 0, 40, .inl (upd (fun _ => 0) 0 0)))]) hD hS hA [1, 0] rfl
        refine va_callv (va_runV (As := [.int 0, .int 1, .int 0]) (rest := []) ⟨hx, hb, hml, hown, hts⟩ (kX6_set_35 l G a0 a1 H.size) (cwV 3 hts gV_X6_29 rfl rfl rfl hv_X6_set ⟨Nat.le_of_ble_eq_true rfl, Nat.le_of_ble_eq_true rfl⟩) (g5_preV hPc hK hDc hN hT hS hFc (ci := 6) (q0 := 0) rfl rfl) rfl rfl hl.1 rfl (lv_room (Nat.le_of_ble_eq_true rfl)) dX6_open_38 ⟨Nat.le_of_ble_eq_true rfl, Nat.le_of_ble_eq_true rfl⟩) hS (fun q _ h => hFc q h) hFc (fun u t H1 locs ht hvm hw hB hz1 hk1 hS => ?_)
        obtain ⟨hP1, hD1⟩ := hB
        rw [ht] at hP1
        obtain rfl := hw
        obtain ⟨hP, hD⟩ := va_join (wr := []) (w1 := [(a1, .inl (G.2 0, 40, .inl (upd (upd (fun _ => 0) 0 0) 1 0))), (a0, .inr (6, [.int 10, .int 4, .ref a1, .int 1]))]) hP hD [1, 0] [] rfl rfl (by decide) (by decide) hk1 hFc hP1 hD1
        generalize H1 = H at hP hS ⊢
        have hP : va_P G.1 vwCl [(a1, .inl (G.2 0, 40, .inl (upd (upd (fun _ => 0) 0 0) 1 0))), (a0, .inr (6, [.int 10, .int 4, .ref a1, .int 1]))] H := hP
        have hD : va_D A [(a1, .inl (G.2 0, 40, .inl (upd (upd (fun _ => 0) 0 0) 1 0))), (a0, .inr (6, [.int 10, .int 4, .ref a1, .int 1]))] := hD
        refine lv_iinc (v := 2) (lv' := [(3, .int 2), (2, .int 0), (0, .ref a0), (1, .int 0)]) hx hb dX6_open_41 hl (k := 0) rfl (by decide) (by decide) rfl (fun ls hl => ?_)
        refine lv_goto (tgt := 26) hx hb dX6_open_44 (by decide) ?_
        refine lv_iload_n hx hb dX6_open_26 rfl (lv_at hl 0 rfl) ?_
        refine lv_aload_n hx hb dX6_open_27 rfl (lv_at hl 2 rfl) ?_
        refine va_get (D := G.1) (ci := 6) (v := .int 4) (C := RX6) (T := TX6) (N := 4) hx hb hts inG_X6 hown hK hP 1 rfl rfl 1 (by decide) (hts _ fl_X6_18) (fun _ h9 => h9) rfl dX6_open_28 ?_
        refine lv_icmp_ge (tgt := 47) hx hb dX6_open_31 (by decide) (fun c_4 => ?_) (fun c_4 => ?_)
        ·
          exact absurd c_4 (by decide)
        ·
          refine lv_aload_n hx hb dX6_open_34 rfl (lv_at hl 2 rfl) ?_
          refine lv_iload_n hx hb dX6_open_35 rfl (lv_at hl 1 rfl) ?_
          refine lv_iload_n hx hb dX6_open_36 rfl (lv_at hl 0 rfl) ?_
          refine lv_iload_n hx hb dX6_open_37 rfl (lv_at hl 3 rfl) ?_
          have hPc := hP.sub (ws' := [(a0, .inr (6, [.int 10, .int 4, .ref a1, .int 1])), (a1, .inl (G.2 0, 40, .inl (upd (upd (fun _ => 0) 0 0) 1 0)))]) [1, 0] rfl
          have hDc := hD.sub (ws' := [(a0, .inr (6, [.int 10, .int 4, .ref a1, .int 1])), (a1, .inl (G.2 0, 40, .inl (upd (upd (fun _ => 0) 0 0) 1 0)))]) [1, 0] (by decide) rfl
          have hFc := va_free (wc := [(a0, .inr (6, [.int 10, .int 4, .ref a1, .int 1])), (a1, .inl (G.2 0, 40, .inl (upd (upd (fun _ => 0) 0 0) 1 0)))]) hD hS hA [1, 0] rfl
          refine va_callv (va_runV (As := [.int 0, .int 2, .int 0]) (rest := []) ⟨hx, hb, hml, hown, hts⟩ (kX6_set_36 l G a0 a1 H.size) (cwV 3 hts gV_X6_29 rfl rfl rfl hv_X6_set ⟨Nat.le_of_ble_eq_true rfl, Nat.le_of_ble_eq_true rfl⟩) (g5_preV hPc hK hDc hN hT hS hFc (ci := 6) (q0 := 0) rfl rfl) rfl rfl hl.1 rfl (lv_room (Nat.le_of_ble_eq_true rfl)) dX6_open_38 ⟨Nat.le_of_ble_eq_true rfl, Nat.le_of_ble_eq_true rfl⟩) hS (fun q _ h => hFc q h) hFc (fun u t H1 locs ht hvm hw hB hz1 hk1 hS => ?_)
          obtain ⟨hP1, hD1⟩ := hB
          rw [ht] at hP1
          obtain rfl := hw
          obtain ⟨hP, hD⟩ := va_join (wr := []) (w1 := [(a1, .inl (G.2 0, 40, .inl (upd (upd (upd (fun _ => 0) 0 0) 1 0) 2 0))), (a0, .inr (6, [.int 10, .int 4, .ref a1, .int 1]))]) hP hD [1, 0] [] rfl rfl (by decide) (by decide) hk1 hFc hP1 hD1
          generalize H1 = H at hP hS ⊢
          have hP : va_P G.1 vwCl [(a1, .inl (G.2 0, 40, .inl (upd (upd (upd (fun _ => 0) 0 0) 1 0) 2 0))), (a0, .inr (6, [.int 10, .int 4, .ref a1, .int 1]))] H := hP
          have hD : va_D A [(a1, .inl (G.2 0, 40, .inl (upd (upd (upd (fun _ => 0) 0 0) 1 0) 2 0))), (a0, .inr (6, [.int 10, .int 4, .ref a1, .int 1]))] := hD
          refine lv_iinc (v := 3) (lv' := [(3, .int 3), (2, .int 0), (0, .ref a0), (1, .int 0)]) hx hb dX6_open_41 hl (k := 0) rfl (by decide) (by decide) rfl (fun ls hl => ?_)
          refine lv_goto (tgt := 26) hx hb dX6_open_44 (by decide) ?_
          refine lv_iload_n hx hb dX6_open_26 rfl (lv_at hl 0 rfl) ?_
          refine lv_aload_n hx hb dX6_open_27 rfl (lv_at hl 2 rfl) ?_
          refine va_get (D := G.1) (ci := 6) (v := .int 4) (C := RX6) (T := TX6) (N := 4) hx hb hts inG_X6 hown hK hP 1 rfl rfl 1 (by decide) (hts _ fl_X6_18) (fun _ h9 => h9) rfl dX6_open_28 ?_
          refine lv_icmp_ge (tgt := 47) hx hb dX6_open_31 (by decide) (fun c_5 => ?_) (fun c_5 => ?_)
          ·
            exact absurd c_5 (by decide)
          ·
            refine lv_aload_n hx hb dX6_open_34 rfl (lv_at hl 2 rfl) ?_
            refine lv_iload_n hx hb dX6_open_35 rfl (lv_at hl 1 rfl) ?_
            refine lv_iload_n hx hb dX6_open_36 rfl (lv_at hl 0 rfl) ?_
            refine lv_iload_n hx hb dX6_open_37 rfl (lv_at hl 3 rfl) ?_
            have hPc := hP.sub (ws' := [(a0, .inr (6, [.int 10, .int 4, .ref a1, .int 1])), (a1, .inl (G.2 0, 40, .inl (upd (upd (upd (fun _ => 0) 0 0) 1 0) 2 0)))]) [1, 0] rfl
            have hDc := hD.sub (ws' := [(a0, .inr (6, [.int 10, .int 4, .ref a1, .int 1])), (a1, .inl (G.2 0, 40, .inl (upd (upd (upd (fun _ => 0) 0 0) 1 0) 2 0)))]) [1, 0] (by decide) rfl
            have hFc := va_free (wc := [(a0, .inr (6, [.int 10, .int 4, .ref a1, .int 1])), (a1, .inl (G.2 0, 40, .inl (upd (upd (upd (fun _ => 0) 0 0) 1 0) 2 0)))]) hD hS hA [1, 0] rfl
            refine va_callv (va_runV (As := [.int 0, .int 3, .int 0]) (rest := []) ⟨hx, hb, hml, hown, hts⟩ (kX6_set_37 l G a0 a1 H.size) (cwV 3 hts gV_X6_29 rfl rfl rfl hv_X6_set ⟨Nat.le_of_ble_eq_true rfl, Nat.le_of_ble_eq_true rfl⟩) (g5_preV hPc hK hDc hN hT hS hFc (ci := 6) (q0 := 0) rfl rfl) rfl rfl hl.1 rfl (lv_room (Nat.le_of_ble_eq_true rfl)) dX6_open_38 ⟨Nat.le_of_ble_eq_true rfl, Nat.le_of_ble_eq_true rfl⟩) hS (fun q _ h => hFc q h) hFc (fun u t H1 locs ht hvm hw hB hz1 hk1 hS => ?_)
            obtain ⟨hP1, hD1⟩ := hB
            rw [ht] at hP1
            obtain rfl := hw
            obtain ⟨hP, hD⟩ := va_join (wr := []) (w1 := [(a1, .inl (G.2 0, 40, .inl (upd (upd (upd (upd (fun _ => 0) 0 0) 1 0) 2 0) 3 0))), (a0, .inr (6, [.int 10, .int 4, .ref a1, .int 1]))]) hP hD [1, 0] [] rfl rfl (by decide) (by decide) hk1 hFc hP1 hD1
            generalize H1 = H at hP hS ⊢
            have hP : va_P G.1 vwCl [(a1, .inl (G.2 0, 40, .inl (upd (upd (upd (upd (fun _ => 0) 0 0) 1 0) 2 0) 3 0))), (a0, .inr (6, [.int 10, .int 4, .ref a1, .int 1]))] H := hP
            have hD : va_D A [(a1, .inl (G.2 0, 40, .inl (upd (upd (upd (upd (fun _ => 0) 0 0) 1 0) 2 0) 3 0))), (a0, .inr (6, [.int 10, .int 4, .ref a1, .int 1]))] := hD
            refine lv_iinc (v := 4) (lv' := [(3, .int 4), (2, .int 0), (0, .ref a0), (1, .int 0)]) hx hb dX6_open_41 hl (k := 0) rfl (by decide) (by decide) rfl (fun ls hl => ?_)
            refine lv_goto (tgt := 26) hx hb dX6_open_44 (by decide) ?_
            refine lv_iload_n hx hb dX6_open_26 rfl (lv_at hl 0 rfl) ?_
            refine lv_aload_n hx hb dX6_open_27 rfl (lv_at hl 2 rfl) ?_
            refine va_get (D := G.1) (ci := 6) (v := .int 4) (C := RX6) (T := TX6) (N := 4) hx hb hts inG_X6 hown hK hP 1 rfl rfl 1 (by decide) (hts _ fl_X6_18) (fun _ h9 => h9) rfl dX6_open_28 ?_
            refine lv_icmp_ge (tgt := 47) hx hb dX6_open_31 (by decide) (fun c_6 => ?_) (fun c_6 => ?_)
            ·
              refine lv_iload_n hx hb dX6_open_47 rfl (lv_at hl 1 rfl) ?_
              exact W.iret (v := 0) hx hb hr (fun t ht hW => ⟨⟨0, [(a1, .inl (G.2 0, 40, .inl (upd (upd (upd (upd (fun _ => 0) 0 0) 1 0) 2 0) 3 0))), (a0, .inr (6, [.int 10, .int 4, .ref a1, .int 1]))], rfl, ⟨rfl, rfl⟩, by rw [ht]; exact hP, hD⟩, hS.F ht⟩) hS.2.2 dX6_open_48
            ·
              exact absurd c_6 (by decide)
  ·
    exact absurd c_1 (by decide)
set_option maxHeartbeats 4000000 in
set_option maxRecDepth 100000 in
theorem kX6_set_38 (l : Launch) (G : g5_G) (a0 a1 : Nat) (sz : Nat) (n0 : Int32) (f0 : Nat → Int32) (h_n0 : 0 ≤ n0.toInt ∧ n0.toInt ≤ 63) : Met l yX6_set (wsG yX6_set cX6_set 4 none) ({ frames := 1, cells := 0, slots := 0, locals := 21 }) (va_Pc [.ref a0, .int 0, .int 0, .int n0] (g5_P G [(a0, .inr (6, [.int 10, .int 4, .ref a1, .int 1])), (a1, .inl (G.2 0, 40, .inl f0))] sz)) (va_Qv (fun (u : va_W) => ((u = [(a1, .inl (G.2 0, 40, .inl (upd f0 0 n0))), (a0, .inr (6, [.int 10, .int 4, .ref a1, .int 1]))]))) (g5_B G (va_A [(a0, .inr (6, [.int 10, .int 4, .ref a1, .int 1])), (a1, .inl (G.2 0, 40, .inl f0))] sz)) (va_A [(a0, .inr (6, [.int 10, .int 4, .ref a1, .int 1])), (a1, .inl (G.2 0, 40, .inl f0))] sz)) 0 0 (va_A [(a0, .inr (6, [.int 10, .int 4, .ref a1, .int 1])), (a1, .inl (G.2 0, 40, .inl f0))] sz) := by
  refine Met.ofW (cc := cX6_set) (maxL := 4) (ret := none) (by decide) rfl ?_
  intro p e s m args below meth c s₁ B hml hv
  obtain ⟨rfl, hsz, hP, hK, hD0, hN, hT⟩ := hv
  have hx := B.exec
  have hb := B.bytes
  have hr := B.returns
  have hts : ∀ w ∈ tblG, w.before _ s = true := fun w h => atoms_spec (ws := (wsG yX6_set cX6_set 4 none)) B.pre w (List.mem_cons_of_mem _ h)
  have hown : s.vm.findClass RX6 = some m.cls := findClass_of_methodNamed B.named
  have hlocks := B.notSynchronized
  subst hsz
  have hD := hD0.self (sz := s.heap.size)
  generalize hAe : va_A [(a0, .inr (6, [.int 10, .int 4, .ref a1, .int 1])), (a1, .inl (G.2 0, 40, .inl f0))] s.heap.size = A at hD hT ⊢
  have hA : ∀ q : Nat, s.heap.size ≤ q → A q := fun q h => by rw [← hAe]; exact Or.inr h
  have hS : va_S A s.heap s.heap [] := va_S.rf
  have hP : va_P G.1 vwCl [(a0, .inr (6, [.int 10, .int 4, .ref a1, .int 1])), (a1, .inl (G.2 0, 40, .inl f0))] s.heap := hP
  have hl := lv_entry ([.ref a0, .int 0, .int 0, .int n0]) (n := 4) (Nat.le_of_ble_eq_true rfl)
  rw [lg_entry_eq]
  generalize (lg_sl ([.ref a0, .int 0, .int 0, .int n0]) ++ List.replicate (4 - (lg_sl ([.ref a0, .int 0, .int 0, .int n0])).length) Slot.unset).toArray = ls at hl ⊢
  have hl : lv_has ls 4 [(0, .ref a0), (1, .int 0), (2, .int 0), (3, .int n0)] := hl
  refine lv_aload_n hx hb dX6_set_0 rfl (lv_at hl 0 rfl) ?_
  refine lv_iload_n hx hb dX6_set_1 rfl (lv_at hl 1 rfl) ?_
  have hPc := hP.sub (ws' := [(a0, .inr (6, [.int 10, .int 4, .ref a1, .int 1]))]) [0] rfl
  have hDc := hD.sub (ws' := [(a0, .inr (6, [.int 10, .int 4, .ref a1, .int 1]))]) [0] (by decide) rfl
  have hFc := va_free (wc := [(a0, .inr (6, [.int 10, .int 4, .ref a1, .int 1]))]) hD hS hA [0] rfl
  refine va_calli (va_runV (As := [.int 0]) (rest := []) ⟨hx, hb, hml, hown, hts⟩ (kX6_has_5 l G a0 a1 s.heap.size) (cwV 1 hts gV_X6_25 rfl rfl rfl hv_X6_has ⟨Nat.le_of_ble_eq_true rfl, Nat.le_of_ble_eq_true rfl⟩) (g5_preV hPc hK hDc hN hT hS hFc (ci := 6) (q0 := 0) rfl rfl) rfl rfl hl.1 rfl (lv_room (Nat.le_of_ble_eq_true rfl)) dX6_set_2 ⟨Nat.le_of_ble_eq_true rfl, Nat.le_of_ble_eq_true rfl⟩) hS (fun q _ h => hFc q h) hFc (fun r u t H1 locs ht hvm hw hB hz1 hk1 hS => ?_)
  obtain ⟨hP1, hD1⟩ := hB
  rw [ht] at hP1
  obtain ⟨rfl, rfl⟩ := hw
  obtain ⟨hP, hD⟩ := va_join (wr := [(a1, .inl (G.2 0, 40, .inl f0))]) (w1 := [(a0, .inr (6, [.int 10, .int 4, .ref a1, .int 1]))]) hP hD [0] [1] rfl rfl (by decide) (by decide) hk1 hFc hP1 hD1
  generalize H1 = H at hP hS ⊢
  have hP : va_P G.1 vwCl [(a1, .inl (G.2 0, 40, .inl f0)), (a0, .inr (6, [.int 10, .int 4, .ref a1, .int 1]))] H := hP
  have hD : va_D A [(a1, .inl (G.2 0, 40, .inl f0)), (a0, .inr (6, [.int 10, .int 4, .ref a1, .int 1]))] := hD
  refine lv_if_eq (tgt := 34) hx hb dX6_set_5 (by decide) (fun c_1 => ?_) (fun c_1 => ?_)
  ·
    exact absurd c_1 (by decide)
  ·
    refine lv_iload_n hx hb dX6_set_8 rfl (lv_at hl 2 rfl) ?_
    refine lv_if_lt (tgt := 34) hx hb dX6_set_9 (by decide) (fun c_2 => ?_) (fun c_2 => ?_)
    ·
      exact absurd c_2 (by decide)
    ·
      refine lv_iload_n hx hb dX6_set_12 rfl (lv_at hl 2 rfl) ?_
      refine lv_aload_n hx hb dX6_set_13 rfl (lv_at hl 0 rfl) ?_
      refine va_get (D := G.1) (ci := 6) (v := .int 4) (C := RX6) (T := TX6) (N := 4) hx hb hts inG_X6 hown hK hP 1 rfl rfl 1 (by decide) (hts _ fl_X6_18) (fun _ h9 => h9) rfl dX6_set_14 ?_
      refine lv_icmp_ge (tgt := 34) hx hb dX6_set_17 (by decide) (fun c_3 => ?_) (fun c_3 => ?_)
      ·
        exact absurd c_3 (by decide)
      ·
        refine lv_aload_n hx hb dX6_set_20 rfl (lv_at hl 0 rfl) ?_
        refine va_get (D := G.1) (ci := 6) (v := .ref a1) (C := RX6) (T := TX6) (N := 4) hx hb hts inG_X6 hown hK hP 1 rfl rfl 2 (by decide) (hts _ fl_X6_21) (fun _ h9 => h9) rfl dX6_set_21 ?_
        refine lv_iload_n hx hb dX6_set_24 rfl (lv_at hl 1 rfl) ?_
        refine lv_aload_n hx hb dX6_set_25 rfl (lv_at hl 0 rfl) ?_
        refine va_get (D := G.1) (ci := 6) (v := .int 4) (C := RX6) (T := TX6) (N := 4) hx hb hts inG_X6 hown hK hP 1 rfl rfl 1 (by decide) (hts _ fl_X6_18) (fun _ h9 => h9) rfl dX6_set_26 ?_
        refine lv_imul hx hb dX6_set_29 ?_
        refine g5_ti (v := 0) (by decide) ?_
        refine lv_iload_n hx hb dX6_set_30 rfl (lv_at hl 2 rfl) ?_
        refine lv_iadd hx hb dX6_set_31 ?_
        refine g5_ti (v := 0) (by decide) ?_
        refine lv_iload_n hx hb dX6_set_32 rfl (lv_at hl 3 rfl) ?_
        refine va_iast hx hb hK hP hD hS 0 0 rfl rfl (i := 0) (x := n0) (by unfold vp_in; decide) dX6_set_33 (fun H locs hP hD hS => ?_)
        have hP : va_P G.1 vwCl [(a1, .inl (G.2 0, 40, .inl (upd f0 0 n0))), (a0, .inr (6, [.int 10, .int 4, .ref a1, .int 1]))] H := hP
        have hD : va_D A [(a1, .inl (G.2 0, 40, .inl (upd f0 0 n0))), (a0, .inr (6, [.int 10, .int 4, .ref a1, .int 1]))] := hD
        exact W.vret hx hb hr (fun t ht hW => ⟨⟨[(a1, .inl (G.2 0, 40, .inl (upd f0 0 n0))), (a0, .inr (6, [.int 10, .int 4, .ref a1, .int 1]))], rfl, rfl, by rw [ht]; exact hP, hD⟩, hS.F ht⟩) hS.2.2 dX6_set_34
set_option maxHeartbeats 4000000 in
set_option maxRecDepth 100000 in
theorem kX6_set_39 (l : Launch) (G : g5_G) (a0 a1 : Nat) (sz : Nat) (n0 : Int32) (f0 : Nat → Int32) (h_n0 : 0 ≤ n0.toInt ∧ n0.toInt ≤ 3) : Met l yX6_set (wsG yX6_set cX6_set 4 none) ({ frames := 1, cells := 0, slots := 0, locals := 21 }) (va_Pc [.ref a0, .int 0, .int 1, .int n0] (g5_P G [(a0, .inr (6, [.int 10, .int 4, .ref a1, .int 1])), (a1, .inl (G.2 0, 40, .inl f0))] sz)) (va_Qv (fun (u : va_W) => ((u = [(a1, .inl (G.2 0, 40, .inl (upd f0 1 n0))), (a0, .inr (6, [.int 10, .int 4, .ref a1, .int 1]))]))) (g5_B G (va_A [(a0, .inr (6, [.int 10, .int 4, .ref a1, .int 1])), (a1, .inl (G.2 0, 40, .inl f0))] sz)) (va_A [(a0, .inr (6, [.int 10, .int 4, .ref a1, .int 1])), (a1, .inl (G.2 0, 40, .inl f0))] sz)) 0 0 (va_A [(a0, .inr (6, [.int 10, .int 4, .ref a1, .int 1])), (a1, .inl (G.2 0, 40, .inl f0))] sz) := by
  refine Met.ofW (cc := cX6_set) (maxL := 4) (ret := none) (by decide) rfl ?_
  intro p e s m args below meth c s₁ B hml hv
  obtain ⟨rfl, hsz, hP, hK, hD0, hN, hT⟩ := hv
  have hx := B.exec
  have hb := B.bytes
  have hr := B.returns
  have hts : ∀ w ∈ tblG, w.before _ s = true := fun w h => atoms_spec (ws := (wsG yX6_set cX6_set 4 none)) B.pre w (List.mem_cons_of_mem _ h)
  have hown : s.vm.findClass RX6 = some m.cls := findClass_of_methodNamed B.named
  have hlocks := B.notSynchronized
  subst hsz
  have hD := hD0.self (sz := s.heap.size)
  generalize hAe : va_A [(a0, .inr (6, [.int 10, .int 4, .ref a1, .int 1])), (a1, .inl (G.2 0, 40, .inl f0))] s.heap.size = A at hD hT ⊢
  have hA : ∀ q : Nat, s.heap.size ≤ q → A q := fun q h => by rw [← hAe]; exact Or.inr h
  have hS : va_S A s.heap s.heap [] := va_S.rf
  have hP : va_P G.1 vwCl [(a0, .inr (6, [.int 10, .int 4, .ref a1, .int 1])), (a1, .inl (G.2 0, 40, .inl f0))] s.heap := hP
  have hl := lv_entry ([.ref a0, .int 0, .int 1, .int n0]) (n := 4) (Nat.le_of_ble_eq_true rfl)
  rw [lg_entry_eq]
  generalize (lg_sl ([.ref a0, .int 0, .int 1, .int n0]) ++ List.replicate (4 - (lg_sl ([.ref a0, .int 0, .int 1, .int n0])).length) Slot.unset).toArray = ls at hl ⊢
  have hl : lv_has ls 4 [(0, .ref a0), (1, .int 0), (2, .int 1), (3, .int n0)] := hl
  refine lv_aload_n hx hb dX6_set_0 rfl (lv_at hl 0 rfl) ?_
  refine lv_iload_n hx hb dX6_set_1 rfl (lv_at hl 1 rfl) ?_
  have hPc := hP.sub (ws' := [(a0, .inr (6, [.int 10, .int 4, .ref a1, .int 1]))]) [0] rfl
  have hDc := hD.sub (ws' := [(a0, .inr (6, [.int 10, .int 4, .ref a1, .int 1]))]) [0] (by decide) rfl
  have hFc := va_free (wc := [(a0, .inr (6, [.int 10, .int 4, .ref a1, .int 1]))]) hD hS hA [0] rfl
  refine va_calli (va_runV (As := [.int 0]) (rest := []) ⟨hx, hb, hml, hown, hts⟩ (kX6_has_5 l G a0 a1 s.heap.size) (cwV 1 hts gV_X6_25 rfl rfl rfl hv_X6_has ⟨Nat.le_of_ble_eq_true rfl, Nat.le_of_ble_eq_true rfl⟩) (g5_preV hPc hK hDc hN hT hS hFc (ci := 6) (q0 := 0) rfl rfl) rfl rfl hl.1 rfl (lv_room (Nat.le_of_ble_eq_true rfl)) dX6_set_2 ⟨Nat.le_of_ble_eq_true rfl, Nat.le_of_ble_eq_true rfl⟩) hS (fun q _ h => hFc q h) hFc (fun r u t H1 locs ht hvm hw hB hz1 hk1 hS => ?_)
  obtain ⟨hP1, hD1⟩ := hB
  rw [ht] at hP1
  obtain ⟨rfl, rfl⟩ := hw
  obtain ⟨hP, hD⟩ := va_join (wr := [(a1, .inl (G.2 0, 40, .inl f0))]) (w1 := [(a0, .inr (6, [.int 10, .int 4, .ref a1, .int 1]))]) hP hD [0] [1] rfl rfl (by decide) (by decide) hk1 hFc hP1 hD1
  generalize H1 = H at hP hS ⊢
  have hP : va_P G.1 vwCl [(a1, .inl (G.2 0, 40, .inl f0)), (a0, .inr (6, [.int 10, .int 4, .ref a1, .int 1]))] H := hP
  have hD : va_D A [(a1, .inl (G.2 0, 40, .inl f0)), (a0, .inr (6, [.int 10, .int 4, .ref a1, .int 1]))] := hD
  refine lv_if_eq (tgt := 34) hx hb dX6_set_5 (by decide) (fun c_1 => ?_) (fun c_1 => ?_)
  ·
    exact absurd c_1 (by decide)
  ·
    refine lv_iload_n hx hb dX6_set_8 rfl (lv_at hl 2 rfl) ?_
    refine lv_if_lt (tgt := 34) hx hb dX6_set_9 (by decide) (fun c_2 => ?_) (fun c_2 => ?_)
    ·
      exact absurd c_2 (by decide)
    ·
      refine lv_iload_n hx hb dX6_set_12 rfl (lv_at hl 2 rfl) ?_
      refine lv_aload_n hx hb dX6_set_13 rfl (lv_at hl 0 rfl) ?_
      refine va_get (D := G.1) (ci := 6) (v := .int 4) (C := RX6) (T := TX6) (N := 4) hx hb hts inG_X6 hown hK hP 1 rfl rfl 1 (by decide) (hts _ fl_X6_18) (fun _ h9 => h9) rfl dX6_set_14 ?_
      refine lv_icmp_ge (tgt := 34) hx hb dX6_set_17 (by decide) (fun c_3 => ?_) (fun c_3 => ?_)
      ·
        exact absurd c_3 (by decide)
      ·
        refine lv_aload_n hx hb dX6_set_20 rfl (lv_at hl 0 rfl) ?_
        refine va_get (D := G.1) (ci := 6) (v := .ref a1) (C := RX6) (T := TX6) (N := 4) hx hb hts inG_X6 hown hK hP 1 rfl rfl 2 (by decide) (hts _ fl_X6_21) (fun _ h9 => h9) rfl dX6_set_21 ?_
        refine lv_iload_n hx hb dX6_set_24 rfl (lv_at hl 1 rfl) ?_
        refine lv_aload_n hx hb dX6_set_25 rfl (lv_at hl 0 rfl) ?_
        refine va_get (D := G.1) (ci := 6) (v := .int 4) (C := RX6) (T := TX6) (N := 4) hx hb hts inG_X6 hown hK hP 1 rfl rfl 1 (by decide) (hts _ fl_X6_18) (fun _ h9 => h9) rfl dX6_set_26 ?_
        refine lv_imul hx hb dX6_set_29 ?_
        refine g5_ti (v := 0) (by decide) ?_
        refine lv_iload_n hx hb dX6_set_30 rfl (lv_at hl 2 rfl) ?_
        refine lv_iadd hx hb dX6_set_31 ?_
        refine g5_ti (v := 1) (by decide) ?_
        refine lv_iload_n hx hb dX6_set_32 rfl (lv_at hl 3 rfl) ?_
        refine va_iast hx hb hK hP hD hS 0 0 rfl rfl (i := 1) (x := n0) (by unfold vp_in; decide) dX6_set_33 (fun H locs hP hD hS => ?_)
        have hP : va_P G.1 vwCl [(a1, .inl (G.2 0, 40, .inl (upd f0 1 n0))), (a0, .inr (6, [.int 10, .int 4, .ref a1, .int 1]))] H := hP
        have hD : va_D A [(a1, .inl (G.2 0, 40, .inl (upd f0 1 n0))), (a0, .inr (6, [.int 10, .int 4, .ref a1, .int 1]))] := hD
        exact W.vret hx hb hr (fun t ht hW => ⟨⟨[(a1, .inl (G.2 0, 40, .inl (upd f0 1 n0))), (a0, .inr (6, [.int 10, .int 4, .ref a1, .int 1]))], rfl, rfl, by rw [ht]; exact hP, hD⟩, hS.F ht⟩) hS.2.2 dX6_set_34
set_option maxHeartbeats 4000000 in
set_option maxRecDepth 100000 in
theorem kX6_set_40 (l : Launch) (G : g5_G) (a0 a1 : Nat) (sz : Nat) (n0 : Int32) (f0 : Nat → Int32) (h_n0 : 0 ≤ n0.toInt ∧ n0.toInt ≤ 23) : Met l yX6_set (wsG yX6_set cX6_set 4 none) ({ frames := 1, cells := 0, slots := 0, locals := 21 }) (va_Pc [.ref a0, .int 0, .int 2, .int n0] (g5_P G [(a0, .inr (6, [.int 10, .int 4, .ref a1, .int 1])), (a1, .inl (G.2 0, 40, .inl f0))] sz)) (va_Qv (fun (u : va_W) => ((u = [(a1, .inl (G.2 0, 40, .inl (upd f0 2 n0))), (a0, .inr (6, [.int 10, .int 4, .ref a1, .int 1]))]))) (g5_B G (va_A [(a0, .inr (6, [.int 10, .int 4, .ref a1, .int 1])), (a1, .inl (G.2 0, 40, .inl f0))] sz)) (va_A [(a0, .inr (6, [.int 10, .int 4, .ref a1, .int 1])), (a1, .inl (G.2 0, 40, .inl f0))] sz)) 0 0 (va_A [(a0, .inr (6, [.int 10, .int 4, .ref a1, .int 1])), (a1, .inl (G.2 0, 40, .inl f0))] sz) := by
  refine Met.ofW (cc := cX6_set) (maxL := 4) (ret := none) (by decide) rfl ?_
  intro p e s m args below meth c s₁ B hml hv
  obtain ⟨rfl, hsz, hP, hK, hD0, hN, hT⟩ := hv
  have hx := B.exec
  have hb := B.bytes
  have hr := B.returns
  have hts : ∀ w ∈ tblG, w.before _ s = true := fun w h => atoms_spec (ws := (wsG yX6_set cX6_set 4 none)) B.pre w (List.mem_cons_of_mem _ h)
  have hown : s.vm.findClass RX6 = some m.cls := findClass_of_methodNamed B.named
  have hlocks := B.notSynchronized
  subst hsz
  have hD := hD0.self (sz := s.heap.size)
  generalize hAe : va_A [(a0, .inr (6, [.int 10, .int 4, .ref a1, .int 1])), (a1, .inl (G.2 0, 40, .inl f0))] s.heap.size = A at hD hT ⊢
  have hA : ∀ q : Nat, s.heap.size ≤ q → A q := fun q h => by rw [← hAe]; exact Or.inr h
  have hS : va_S A s.heap s.heap [] := va_S.rf
  have hP : va_P G.1 vwCl [(a0, .inr (6, [.int 10, .int 4, .ref a1, .int 1])), (a1, .inl (G.2 0, 40, .inl f0))] s.heap := hP
  have hl := lv_entry ([.ref a0, .int 0, .int 2, .int n0]) (n := 4) (Nat.le_of_ble_eq_true rfl)
  rw [lg_entry_eq]
  generalize (lg_sl ([.ref a0, .int 0, .int 2, .int n0]) ++ List.replicate (4 - (lg_sl ([.ref a0, .int 0, .int 2, .int n0])).length) Slot.unset).toArray = ls at hl ⊢
  have hl : lv_has ls 4 [(0, .ref a0), (1, .int 0), (2, .int 2), (3, .int n0)] := hl
  refine lv_aload_n hx hb dX6_set_0 rfl (lv_at hl 0 rfl) ?_
  refine lv_iload_n hx hb dX6_set_1 rfl (lv_at hl 1 rfl) ?_
  have hPc := hP.sub (ws' := [(a0, .inr (6, [.int 10, .int 4, .ref a1, .int 1]))]) [0] rfl
  have hDc := hD.sub (ws' := [(a0, .inr (6, [.int 10, .int 4, .ref a1, .int 1]))]) [0] (by decide) rfl
  have hFc := va_free (wc := [(a0, .inr (6, [.int 10, .int 4, .ref a1, .int 1]))]) hD hS hA [0] rfl
  refine va_calli (va_runV (As := [.int 0]) (rest := []) ⟨hx, hb, hml, hown, hts⟩ (kX6_has_5 l G a0 a1 s.heap.size) (cwV 1 hts gV_X6_25 rfl rfl rfl hv_X6_has ⟨Nat.le_of_ble_eq_true rfl, Nat.le_of_ble_eq_true rfl⟩) (g5_preV hPc hK hDc hN hT hS hFc (ci := 6) (q0 := 0) rfl rfl) rfl rfl hl.1 rfl (lv_room (Nat.le_of_ble_eq_true rfl)) dX6_set_2 ⟨Nat.le_of_ble_eq_true rfl, Nat.le_of_ble_eq_true rfl⟩) hS (fun q _ h => hFc q h) hFc (fun r u t H1 locs ht hvm hw hB hz1 hk1 hS => ?_)
  obtain ⟨hP1, hD1⟩ := hB
  rw [ht] at hP1
  obtain ⟨rfl, rfl⟩ := hw
  obtain ⟨hP, hD⟩ := va_join (wr := [(a1, .inl (G.2 0, 40, .inl f0))]) (w1 := [(a0, .inr (6, [.int 10, .int 4, .ref a1, .int 1]))]) hP hD [0] [1] rfl rfl (by decide) (by decide) hk1 hFc hP1 hD1
  generalize H1 = H at hP hS ⊢
  have hP : va_P G.1 vwCl [(a1, .inl (G.2 0, 40, .inl f0)), (a0, .inr (6, [.int 10, .int 4, .ref a1, .int 1]))] H := hP
  have hD : va_D A [(a1, .inl (G.2 0, 40, .inl f0)), (a0, .inr (6, [.int 10, .int 4, .ref a1, .int 1]))] := hD
  refine lv_if_eq (tgt := 34) hx hb dX6_set_5 (by decide) (fun c_1 => ?_) (fun c_1 => ?_)
  ·
    exact absurd c_1 (by decide)
  ·
    refine lv_iload_n hx hb dX6_set_8 rfl (lv_at hl 2 rfl) ?_
    refine lv_if_lt (tgt := 34) hx hb dX6_set_9 (by decide) (fun c_2 => ?_) (fun c_2 => ?_)
    ·
      exact absurd c_2 (by decide)
    ·
      refine lv_iload_n hx hb dX6_set_12 rfl (lv_at hl 2 rfl) ?_
      refine lv_aload_n hx hb dX6_set_13 rfl (lv_at hl 0 rfl) ?_
      refine va_get (D := G.1) (ci := 6) (v := .int 4) (C := RX6) (T := TX6) (N := 4) hx hb hts inG_X6 hown hK hP 1 rfl rfl 1 (by decide) (hts _ fl_X6_18) (fun _ h9 => h9) rfl dX6_set_14 ?_
      refine lv_icmp_ge (tgt := 34) hx hb dX6_set_17 (by decide) (fun c_3 => ?_) (fun c_3 => ?_)
      ·
        exact absurd c_3 (by decide)
      ·
        refine lv_aload_n hx hb dX6_set_20 rfl (lv_at hl 0 rfl) ?_
        refine va_get (D := G.1) (ci := 6) (v := .ref a1) (C := RX6) (T := TX6) (N := 4) hx hb hts inG_X6 hown hK hP 1 rfl rfl 2 (by decide) (hts _ fl_X6_21) (fun _ h9 => h9) rfl dX6_set_21 ?_
        refine lv_iload_n hx hb dX6_set_24 rfl (lv_at hl 1 rfl) ?_
        refine lv_aload_n hx hb dX6_set_25 rfl (lv_at hl 0 rfl) ?_
        refine va_get (D := G.1) (ci := 6) (v := .int 4) (C := RX6) (T := TX6) (N := 4) hx hb hts inG_X6 hown hK hP 1 rfl rfl 1 (by decide) (hts _ fl_X6_18) (fun _ h9 => h9) rfl dX6_set_26 ?_
        refine lv_imul hx hb dX6_set_29 ?_
        refine g5_ti (v := 0) (by decide) ?_
        refine lv_iload_n hx hb dX6_set_30 rfl (lv_at hl 2 rfl) ?_
        refine lv_iadd hx hb dX6_set_31 ?_
        refine g5_ti (v := 2) (by decide) ?_
        refine lv_iload_n hx hb dX6_set_32 rfl (lv_at hl 3 rfl) ?_
        refine va_iast hx hb hK hP hD hS 0 0 rfl rfl (i := 2) (x := n0) (by unfold vp_in; decide) dX6_set_33 (fun H locs hP hD hS => ?_)
        have hP : va_P G.1 vwCl [(a1, .inl (G.2 0, 40, .inl (upd f0 2 n0))), (a0, .inr (6, [.int 10, .int 4, .ref a1, .int 1]))] H := hP
        have hD : va_D A [(a1, .inl (G.2 0, 40, .inl (upd f0 2 n0))), (a0, .inr (6, [.int 10, .int 4, .ref a1, .int 1]))] := hD
        exact W.vret hx hb hr (fun t ht hW => ⟨⟨[(a1, .inl (G.2 0, 40, .inl (upd f0 2 n0))), (a0, .inr (6, [.int 10, .int 4, .ref a1, .int 1]))], rfl, rfl, by rw [ht]; exact hP, hD⟩, hS.F ht⟩) hS.2.2 dX6_set_34
theorem dX6_setLook_0 : decode cX6_setLook 0 = .ok (.aload_n 0, 1) := by decide +kernel
theorem dX6_setLook_1 : decode cX6_setLook 1 = .ok (.iload_n 1, 1) := by decide +kernel
theorem dX6_setLook_2 : decode cX6_setLook 2 = .ok (.iconst 0, 1) := by decide +kernel
theorem dX6_setLook_3 : decode cX6_setLook 3 = .ok (.iload_n 2, 1) := by decide +kernel
theorem dX6_setLook_4 : decode cX6_setLook 4 = .ok (.invokevirtual 29, 3) := by decide +kernel
theorem dX6_setLook_7 : decode cX6_setLook 7 = .ok (.aload_n 0, 1) := by decide +kernel
theorem dX6_setLook_8 : decode cX6_setLook 8 = .ok (.iload_n 1, 1) := by decide +kernel
theorem dX6_setLook_9 : decode cX6_setLook 9 = .ok (.iconst 1, 1) := by decide +kernel
theorem dX6_setLook_10 : decode cX6_setLook 10 = .ok (.iload_n 3, 1) := by decide +kernel
theorem dX6_setLook_11 : decode cX6_setLook 11 = .ok (.invokevirtual 29, 3) := by decide +kernel
theorem dX6_setLook_14 : decode cX6_setLook 14 = .ok (.aload_n 0, 1) := by decide +kernel
theorem dX6_setLook_15 : decode cX6_setLook 15 = .ok (.iload_n 1, 1) := by decide +kernel
theorem dX6_setLook_16 : decode cX6_setLook 16 = .ok (.iconst 2, 1) := by decide +kernel
theorem dX6_setLook_17 : decode cX6_setLook 17 = .ok (.iload 4, 2) := by decide +kernel
theorem dX6_setLook_19 : decode cX6_setLook 19 = .ok (.invokevirtual 29, 3) := by decide +kernel
theorem dX6_setLook_22 : decode cX6_setLook 22 = .ok (.return_, 1) := by decide +kernel
set_option maxHeartbeats 4000000 in
set_option maxRecDepth 100000 in
theorem kX6_setLook (l : Launch) (G : g5_G) (a0 a1 : Nat) (sz : Nat) (n0 : Int32) (n1 : Int32) (n2 : Int32) (f0 : Nat → Int32) (h_n0 : 0 ≤ n0.toInt ∧ n0.toInt ≤ 63) (h_n1 : 0 ≤ n1.toInt ∧ n1.toInt ≤ 3) (h_n2 : 0 ≤ n2.toInt ∧ n2.toInt ≤ 23) : Met l yX6_setLook (wsG yX6_setLook cX6_setLook 5 none) ({ frames := 2, cells := 0, slots := 0, locals := 44 }) (va_Pc [.ref a0, .int 0, .int n0, .int n1, .int n2] (g5_P G [(a0, .inr (6, [.int 10, .int 4, .ref a1, .int 1])), (a1, .inl (G.2 0, 40, .inl f0))] sz)) (va_Qv (fun (u : va_W) => ((u = [(a1, .inl (G.2 0, 40, .inl (upd (upd (upd f0 0 n0) 1 n1) 2 n2))), (a0, .inr (6, [.int 10, .int 4, .ref a1, .int 1]))]))) (g5_B G (va_A [(a0, .inr (6, [.int 10, .int 4, .ref a1, .int 1])), (a1, .inl (G.2 0, 40, .inl f0))] sz)) (va_A [(a0, .inr (6, [.int 10, .int 4, .ref a1, .int 1])), (a1, .inl (G.2 0, 40, .inl f0))] sz)) 0 0 (va_A [(a0, .inr (6, [.int 10, .int 4, .ref a1, .int 1])), (a1, .inl (G.2 0, 40, .inl f0))] sz) := by
  refine Met.ofW (cc := cX6_setLook) (maxL := 5) (ret := none) (by decide) rfl ?_
  intro p e s m args below meth c s₁ B hml hv
  obtain ⟨rfl, hsz, hP, hK, hD0, hN, hT⟩ := hv
  have hx := B.exec
  have hb := B.bytes
  have hr := B.returns
  have hts : ∀ w ∈ tblG, w.before _ s = true := fun w h => atoms_spec (ws := (wsG yX6_setLook cX6_setLook 5 none)) B.pre w (List.mem_cons_of_mem _ h)
  have hown : s.vm.findClass RX6 = some m.cls := findClass_of_methodNamed B.named
  have hlocks := B.notSynchronized
  subst hsz
  have hD := hD0.self (sz := s.heap.size)
  generalize hAe : va_A [(a0, .inr (6, [.int 10, .int 4, .ref a1, .int 1])), (a1, .inl (G.2 0, 40, .inl f0))] s.heap.size = A at hD hT ⊢
  have hA : ∀ q : Nat, s.heap.size ≤ q → A q := fun q h => by rw [← hAe]; exact Or.inr h
  have hS : va_S A s.heap s.heap [] := va_S.rf
  have hP : va_P G.1 vwCl [(a0, .inr (6, [.int 10, .int 4, .ref a1, .int 1])), (a1, .inl (G.2 0, 40, .inl f0))] s.heap := hP
  have hl := lv_entry ([.ref a0, .int 0, .int n0, .int n1, .int n2]) (n := 5) (Nat.le_of_ble_eq_true rfl)
  rw [lg_entry_eq]
  generalize (lg_sl ([.ref a0, .int 0, .int n0, .int n1, .int n2]) ++ List.replicate (5 - (lg_sl ([.ref a0, .int 0, .int n0, .int n1, .int n2])).length) Slot.unset).toArray = ls at hl ⊢
  have hl : lv_has ls 5 [(0, .ref a0), (1, .int 0), (2, .int n0), (3, .int n1), (4, .int n2)] := hl
  refine lv_aload_n hx hb dX6_setLook_0 rfl (lv_at hl 0 rfl) ?_
  refine lv_iload_n hx hb dX6_setLook_1 rfl (lv_at hl 1 rfl) ?_
  refine lv_iconst (v := 0) hx hb dX6_setLook_2 (by decide) ?_
  refine lv_iload_n hx hb dX6_setLook_3 rfl (lv_at hl 2 rfl) ?_
  have hPc := hP.sub (ws' := [(a0, .inr (6, [.int 10, .int 4, .ref a1, .int 1])), (a1, .inl (G.2 0, 40, .inl f0))]) [0, 1] rfl
  have hDc := hD.sub (ws' := [(a0, .inr (6, [.int 10, .int 4, .ref a1, .int 1])), (a1, .inl (G.2 0, 40, .inl f0))]) [0, 1] (by decide) rfl
  have hFc := va_free (wc := [(a0, .inr (6, [.int 10, .int 4, .ref a1, .int 1])), (a1, .inl (G.2 0, 40, .inl f0))]) hD hS hA [0, 1] rfl
  refine va_callv (va_runV (As := [.int 0, .int 0, .int n0]) (rest := []) ⟨hx, hb, hml, hown, hts⟩ (kX6_set_38 l G a0 a1 s.heap.size n0 f0 ⟨by omega, by omega⟩) (cwV 3 hts gV_X6_29 rfl rfl rfl hv_X6_set ⟨Nat.le_of_ble_eq_true rfl, Nat.le_of_ble_eq_true rfl⟩) (g5_preV hPc hK hDc hN hT hS hFc (ci := 6) (q0 := 0) rfl rfl) rfl rfl hl.1 rfl (lv_room (Nat.le_of_ble_eq_true rfl)) dX6_setLook_4 ⟨Nat.le_of_ble_eq_true rfl, Nat.le_of_ble_eq_true rfl⟩) hS (fun q _ h => hFc q h) hFc (fun u t H1 locs ht hvm hw hB hz1 hk1 hS => ?_)
  obtain ⟨hP1, hD1⟩ := hB
  rw [ht] at hP1
  obtain rfl := hw
  obtain ⟨hP, hD⟩ := va_join (wr := []) (w1 := [(a1, .inl (G.2 0, 40, .inl (upd f0 0 n0))), (a0, .inr (6, [.int 10, .int 4, .ref a1, .int 1]))]) hP hD [0, 1] [] rfl rfl (by decide) (by decide) hk1 hFc hP1 hD1
  generalize H1 = H at hP hS ⊢
  have hP : va_P G.1 vwCl [(a1, .inl (G.2 0, 40, .inl (upd f0 0 n0))), (a0, .inr (6, [.int 10, .int 4, .ref a1, .int 1]))] H := hP
  have hD : va_D A [(a1, .inl (G.2 0, 40, .inl (upd f0 0 n0))), (a0, .inr (6, [.int 10, .int 4, .ref a1, .int 1]))] := hD
  refine lv_aload_n hx hb dX6_setLook_7 rfl (lv_at hl 0 rfl) ?_
  refine lv_iload_n hx hb dX6_setLook_8 rfl (lv_at hl 1 rfl) ?_
  refine lv_iconst (v := 1) hx hb dX6_setLook_9 (by decide) ?_
  refine lv_iload_n hx hb dX6_setLook_10 rfl (lv_at hl 3 rfl) ?_
  have hPc := hP.sub (ws' := [(a0, .inr (6, [.int 10, .int 4, .ref a1, .int 1])), (a1, .inl (G.2 0, 40, .inl (upd f0 0 n0)))]) [1, 0] rfl
  have hDc := hD.sub (ws' := [(a0, .inr (6, [.int 10, .int 4, .ref a1, .int 1])), (a1, .inl (G.2 0, 40, .inl (upd f0 0 n0)))]) [1, 0] (by decide) rfl
  have hFc := va_free (wc := [(a0, .inr (6, [.int 10, .int 4, .ref a1, .int 1])), (a1, .inl (G.2 0, 40, .inl (upd f0 0 n0)))]) hD hS hA [1, 0] rfl
  refine va_callv (va_runV (As := [.int 0, .int 1, .int n1]) (rest := []) ⟨hx, hb, hml, hown, hts⟩ (kX6_set_39 l G a0 a1 H.size n1 (upd f0 0 n0) ⟨by omega, by omega⟩) (cwV 3 hts gV_X6_29 rfl rfl rfl hv_X6_set ⟨Nat.le_of_ble_eq_true rfl, Nat.le_of_ble_eq_true rfl⟩) (g5_preV hPc hK hDc hN hT hS hFc (ci := 6) (q0 := 0) rfl rfl) rfl rfl hl.1 rfl (lv_room (Nat.le_of_ble_eq_true rfl)) dX6_setLook_11 ⟨Nat.le_of_ble_eq_true rfl, Nat.le_of_ble_eq_true rfl⟩) hS (fun q _ h => hFc q h) hFc (fun u t H1 locs ht hvm hw hB hz1 hk1 hS => ?_)
  obtain ⟨hP1, hD1⟩ := hB
  rw [ht] at hP1
  obtain rfl := hw
  obtain ⟨hP, hD⟩ := va_join (wr := []) (w1 := [(a1, .inl (G.2 0, 40, .inl (upd (upd f0 0 n0) 1 n1))), (a0, .inr (6, [.int 10, .int 4, .ref a1, .int 1]))]) hP hD [1, 0] [] rfl rfl (by decide) (by decide) hk1 hFc hP1 hD1
  generalize H1 = H at hP hS ⊢
  have hP : va_P G.1 vwCl [(a1, .inl (G.2 0, 40, .inl (upd (upd f0 0 n0) 1 n1))), (a0, .inr (6, [.int 10, .int 4, .ref a1, .int 1]))] H := hP
  have hD : va_D A [(a1, .inl (G.2 0, 40, .inl (upd (upd f0 0 n0) 1 n1))), (a0, .inr (6, [.int 10, .int 4, .ref a1, .int 1]))] := hD
  refine lv_aload_n hx hb dX6_setLook_14 rfl (lv_at hl 0 rfl) ?_
  refine lv_iload_n hx hb dX6_setLook_15 rfl (lv_at hl 1 rfl) ?_
  refine lv_iconst (v := 2) hx hb dX6_setLook_16 (by decide) ?_
  refine lv_iload hx hb dX6_setLook_17 (lv_at hl 4 rfl) ?_
  have hPc := hP.sub (ws' := [(a0, .inr (6, [.int 10, .int 4, .ref a1, .int 1])), (a1, .inl (G.2 0, 40, .inl (upd (upd f0 0 n0) 1 n1)))]) [1, 0] rfl
  have hDc := hD.sub (ws' := [(a0, .inr (6, [.int 10, .int 4, .ref a1, .int 1])), (a1, .inl (G.2 0, 40, .inl (upd (upd f0 0 n0) 1 n1)))]) [1, 0] (by decide) rfl
  have hFc := va_free (wc := [(a0, .inr (6, [.int 10, .int 4, .ref a1, .int 1])), (a1, .inl (G.2 0, 40, .inl (upd (upd f0 0 n0) 1 n1)))]) hD hS hA [1, 0] rfl
  refine va_callv (va_runV (As := [.int 0, .int 2, .int n2]) (rest := []) ⟨hx, hb, hml, hown, hts⟩ (kX6_set_40 l G a0 a1 H.size n2 (upd (upd f0 0 n0) 1 n1) ⟨by omega, by omega⟩) (cwV 3 hts gV_X6_29 rfl rfl rfl hv_X6_set ⟨Nat.le_of_ble_eq_true rfl, Nat.le_of_ble_eq_true rfl⟩) (g5_preV hPc hK hDc hN hT hS hFc (ci := 6) (q0 := 0) rfl rfl) rfl rfl hl.1 rfl (lv_room (Nat.le_of_ble_eq_true rfl)) dX6_setLook_19 ⟨Nat.le_of_ble_eq_true rfl, Nat.le_of_ble_eq_true rfl⟩) hS (fun q _ h => hFc q h) hFc (fun u t H1 locs ht hvm hw hB hz1 hk1 hS => ?_)
  obtain ⟨hP1, hD1⟩ := hB
  rw [ht] at hP1
  obtain rfl := hw
  obtain ⟨hP, hD⟩ := va_join (wr := []) (w1 := [(a1, .inl (G.2 0, 40, .inl (upd (upd (upd f0 0 n0) 1 n1) 2 n2))), (a0, .inr (6, [.int 10, .int 4, .ref a1, .int 1]))]) hP hD [1, 0] [] rfl rfl (by decide) (by decide) hk1 hFc hP1 hD1
  generalize H1 = H at hP hS ⊢
  have hP : va_P G.1 vwCl [(a1, .inl (G.2 0, 40, .inl (upd (upd (upd f0 0 n0) 1 n1) 2 n2))), (a0, .inr (6, [.int 10, .int 4, .ref a1, .int 1]))] H := hP
  have hD : va_D A [(a1, .inl (G.2 0, 40, .inl (upd (upd (upd f0 0 n0) 1 n1) 2 n2))), (a0, .inr (6, [.int 10, .int 4, .ref a1, .int 1]))] := hD
  exact W.vret hx hb hr (fun t ht hW => ⟨⟨[(a1, .inl (G.2 0, 40, .inl (upd (upd (upd f0 0 n0) 1 n1) 2 n2))), (a0, .inr (6, [.int 10, .int 4, .ref a1, .int 1]))], rfl, rfl, by rw [ht]; exact hP, hD⟩, hS.F ht⟩) hS.2.2 dX6_setLook_22
theorem ml_X11_268 : Cond.methodLink RX11 268 yX6_setLook ∈ tblG := tg 934 (by decide +kernel) (by decide +kernel)
theorem im_X6_setLook : Cond.instanceMethod yX6_setLook ∈ tblG := tg 935 (by decide +kernel) (by decide +kernel)
theorem se_X6_setLook : Cond.selects RX6 yX6_setLook yX6_setLook ∈ tblG := tg 936 (by decide +kernel) (by decide +kernel)
theorem cd_X6_setLook : Cond.code yX6_setLook cX6_setLook 5 none ∈ tblG := tg 937 (by decide +kernel) (by decide +kernel)
theorem gW_X6_setLook : GoodIn tblG (wsG yX6_setLook cX6_setLook 5 none) := tgi cd_X6_setLook
theorem gV_X11_268 : GoodIn tblG (wsV RX11 268 RX6 yX6_setLook (wsG yX6_setLook cX6_setLook 5 none)) := tgV ml_X11_268 im_X6_setLook se_X6_setLook ini_X6 gW_X6_setLook
theorem hv_X6_setLook : yX6_setLook.cls = RX6 ∧ yX6_setLook.cls ≠ "java/lang/invoke/MethodHandle" ∧ yX6_setLook.cls ≠ "java/lang/invoke/VarHandle" ∧ (parseMethodDescriptor yX6_setLook.desc).map (fun d => d.parameters.length) = some 4 := by decide +kernel
