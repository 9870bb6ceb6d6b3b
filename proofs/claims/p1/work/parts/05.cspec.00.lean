set_option maxHeartbeats 4000000 in
set_option maxRecDepth 100000 in
theorem sX_wall (l : Launch) (G : g5_G) (a0 a1 a2 a3 a4 a5 a6 a7 a8 a9 a10 a11 a12 a13 a14 a15 a16 a17 a18 a19 a20 : Nat) (sz : Nat) (n0 : Int32) (n1 : Int32) : Met l yX11_wall (wsG yX11_wall cX11_wall 4 (some .int)) ({ frames := 2, cells := 0, slots := 0, locals := 45 }) (va_Pc [.ref a0, .int n0, .int n1] (g5_P G [(a0, .inr (11, [.ref a1, .ref a2, .ref a3, .ref a4, .ref a5, .ref a6, .ref a7, .ref a8, .ref a9, .ref a10, .int 0, .int 0, .int (-1), .ref a11, .int 0, .ref a12, .int 0])), (a12, .inl (G.2 0, 5, .inl (fun _ => 0))), (a1, .inr (1, [.long 0, .int 1000, .int (-1), .int (-1), .int 0, .ref a13, .ref a14, .ref a15, .ref a16, .ref a17, .ref a18, .long 0, .ref a19])), (a19, .inl (G.2 1, 24, .inr (.inl (fun _ => 0)))), (a17, .inr (6, [.int 8, .int 5, .ref a20, .int 0]))] sz)) (va_Qi (fun (r : Int32) (u : va_W) => r.toInt = sp_wall n0.toInt n1.toInt ∧ u = []) (g5_B G (va_A [(a0, .inr (11, [.ref a1, .ref a2, .ref a3, .ref a4, .ref a5, .ref a6, .ref a7, .ref a8, .ref a9, .ref a10, .int 0, .int 0, .int (-1), .ref a11, .int 0, .ref a12, .int 0])), (a12, .inl (G.2 0, 5, .inl (fun _ => 0))), (a1, .inr (1, [.long 0, .int 1000, .int (-1), .int (-1), .int 0, .ref a13, .ref a14, .ref a15, .ref a16, .ref a17, .ref a18, .long 0, .ref a19])), (a19, .inl (G.2 1, 24, .inr (.inl (fun _ => 0)))), (a17, .inr (6, [.int 8, .int 5, .ref a20, .int 0]))] sz)) (va_A [(a0, .inr (11, [.ref a1, .ref a2, .ref a3, .ref a4, .ref a5, .ref a6, .ref a7, .ref a8, .ref a9, .ref a10, .int 0, .int 0, .int (-1), .ref a11, .int 0, .ref a12, .int 0])), (a12, .inl (G.2 0, 5, .inl (fun _ => 0))), (a1, .inr (1, [.long 0, .int 1000, .int (-1), .int (-1), .int 0, .ref a13, .ref a14, .ref a15, .ref a16, .ref a17, .ref a18, .long 0, .ref a19])), (a19, .inl (G.2 1, 24, .inr (.inl (fun _ => 0)))), (a17, .inr (6, [.int 8, .int 5, .ref a20, .int 0]))] sz)) 0 0 (va_A [(a0, .inr (11, [.ref a1, .ref a2, .ref a3, .ref a4, .ref a5, .ref a6, .ref a7, .ref a8, .ref a9, .ref a10, .int 0, .int 0, .int (-1), .ref a11, .int 0, .ref a12, .int 0])), (a12, .inl (G.2 0, 5, .inl (fun _ => 0))), (a1, .inr (1, [.long 0, .int 1000, .int (-1), .int (-1), .int 0, .ref a13, .ref a14, .ref a15, .ref a16, .ref a17, .ref a18, .long 0, .ref a19])), (a19, .inl (G.2 1, 24, .inr (.inl (fun _ => 0)))), (a17, .inr (6, [.int 8, .int 5, .ref a20, .int 0]))] sz) := by
  refine g5_wkI (kX11_wall l G a0 a1 a2 a3 a4 a5 a6 a7 a8 a9 a10 a11 a12 a13 a14 a15 a16 a17 a18 a19 a20 sz n0 n1) (fun r u h => ?_)
  rcases h with ⟨i0, hr, hu⟩ | ⟨i1, i2, hr, hu⟩ | ⟨i3, i4, i5, i6, i7, hr, hu⟩ | ⟨i8, i9, i10, i11, hr, hu⟩ | ⟨i12, i13, i14, i15, i16, i17, hr, hu⟩
  · refine ⟨?_, hu⟩
    rw [hr]
    rw [show ((-1) : Int32).toInt = (-1) from by decide]
    unfold sp_wall; omega
  · refine ⟨?_, hu⟩
    rw [hr]
    rw [show ((-1) : Int32).toInt = (-1) from by decide]
    unfold sp_wall; omega
  · refine ⟨?_, hu⟩
    rw [hr]
    rw [show (0 : Int32).toInt = 0 from by decide]
    unfold sp_wall; omega
  · refine ⟨?_, hu⟩
    rw [hr]
    rw [show ((-1) : Int32).toInt = (-1) from by decide]
    unfold sp_wall; omega
  · refine ⟨?_, hu⟩
    rw [hr]
    rw [show (0 : Int32).toInt = 0 from by decide]
    unfold sp_wall; omega
set_option maxHeartbeats 4000000 in
set_option maxRecDepth 100000 in
theorem sX_glass (l : Launch) (G : g5_G) (a0 a1 a2 a3 a4 a5 a6 a7 a8 a9 a10 a11 a12 a13 a14 a15 a16 a17 a18 a19 a20 a21 : Nat) (sz : Nat) (n0 : Int32) (n1 : Int32) (n2 : Int32) (n3 : Int32) : Met l yX11_glass (wsG yX11_glass cX11_glass 6 (some .int)) ({ frames := 3, cells := 0, slots := 0, locals := 67 }) (va_Pc [.ref a0, .int n0, .int n1, .int n2, .int n3] (g5_P G [(a0, .inr (11, [.ref a1, .ref a2, .ref a3, .ref a4, .ref a5, .ref a6, .ref a7, .ref a8, .ref a9, .ref a10, .int 0, .int 0, .int (-1), .ref a11, .int 0, .ref a12, .int 0])), (a12, .inl (G.2 0, 5, .inl (fun _ => 0))), (a1, .inr (1, [.long 0, .int 1000, .int (-1), .int (-1), .int 0, .ref a13, .ref a14, .ref a15, .ref a16, .ref a17, .ref a18, .long 0, .ref a19])), (a17, .inr (6, [.int 8, .int 5, .ref a20, .int 0])), (a14, .inr (6, [.int 6, .int 5, .ref a21, .int 0])), (a21, .inl (G.2 0, 30, .inl (fun _ => 0)))] sz)) (va_Qi (fun (r : Int32) (u : va_W) => r.toInt = sp_glass n0.toInt n1.toInt n2.toInt n3.toInt ∧ u = []) (g5_B G (va_A [(a0, .inr (11, [.ref a1, .ref a2, .ref a3, .ref a4, .ref a5, .ref a6, .ref a7, .ref a8, .ref a9, .ref a10, .int 0, .int 0, .int (-1), .ref a11, .int 0, .ref a12, .int 0])), (a12, .inl (G.2 0, 5, .inl (fun _ => 0))), (a1, .inr (1, [.long 0, .int 1000, .int (-1), .int (-1), .int 0, .ref a13, .ref a14, .ref a15, .ref a16, .ref a17, .ref a18, .long 0, .ref a19])), (a17, .inr (6, [.int 8, .int 5, .ref a20, .int 0])), (a14, .inr (6, [.int 6, .int 5, .ref a21, .int 0])), (a21, .inl (G.2 0, 30, .inl (fun _ => 0)))] sz)) (va_A [(a0, .inr (11, [.ref a1, .ref a2, .ref a3, .ref a4, .ref a5, .ref a6, .ref a7, .ref a8, .ref a9, .ref a10, .int 0, .int 0, .int (-1), .ref a11, .int 0, .ref a12, .int 0])), (a12, .inl (G.2 0, 5, .inl (fun _ => 0))), (a1, .inr (1, [.long 0, .int 1000, .int (-1), .int (-1), .int 0, .ref a13, .ref a14, .ref a15, .ref a16, .ref a17, .ref a18, .long 0, .ref a19])), (a17, .inr (6, [.int 8, .int 5, .ref a20, .int 0])), (a14, .inr (6, [.int 6, .int 5, .ref a21, .int 0])), (a21, .inl (G.2 0, 30, .inl (fun _ => 0)))] sz)) 0 0 (va_A [(a0, .inr (11, [.ref a1, .ref a2, .ref a3, .ref a4, .ref a5, .ref a6, .ref a7, .ref a8, .ref a9, .ref a10, .int 0, .int 0, .int (-1), .ref a11, .int 0, .ref a12, .int 0])), (a12, .inl (G.2 0, 5, .inl (fun _ => 0))), (a1, .inr (1, [.long 0, .int 1000, .int (-1), .int (-1), .int 0, .ref a13, .ref a14, .ref a15, .ref a16, .ref a17, .ref a18, .long 0, .ref a19])), (a17, .inr (6, [.int 8, .int 5, .ref a20, .int 0])), (a14, .inr (6, [.int 6, .int 5, .ref a21, .int 0])), (a21, .inl (G.2 0, 30, .inl (fun _ => 0)))] sz) := by
  refine g5_wkI (kX11_glass l G a0 a1 a2 a3 a4 a5 a6 a7 a8 a9 a10 a11 a12 a13 a14 a15 a16 a17 a18 a19 a20 a21 sz n0 n1 n2 n3) (fun r u h => ?_)
  rcases h with ⟨i0, hr, hu⟩ | ⟨i1, i2, hr, hu⟩ | ⟨i3, i4, i5, hr, hu⟩ | ⟨i6, i7, i8, i9, hr, hu⟩ | ⟨i10, i11, i12, i13, i14, hr, hu⟩ | ⟨i15, i16, i17, i18, i19, i20, hr, hu⟩ | ⟨i21, i22, i23, i24, i25, i26, i27, hr, hu⟩ | ⟨i28, i29, i30, i31, i32, i33, i34, i35, hr, hu⟩ | ⟨i36, i37, i38, i39, i40, i41, i42, i43, hr, hu⟩
  · refine ⟨?_, hu⟩
    rw [hr]
    rw [show ((-1) : Int32).toInt = (-1) from by decide]
    unfold sp_glass; omega
  · refine ⟨?_, hu⟩
    rw [hr]
    rw [show ((-1) : Int32).toInt = (-1) from by decide]
    unfold sp_glass; omega
  · refine ⟨?_, hu⟩
    rw [hr]
    rw [show ((-1) : Int32).toInt = (-1) from by decide]
    unfold sp_glass; omega
  · refine ⟨?_, hu⟩
    rw [hr]
    rw [show ((-1) : Int32).toInt = (-1) from by decide]
    unfold sp_glass; omega
  · refine ⟨?_, hu⟩
    rw [hr]
    rw [show ((-1) : Int32).toInt = (-1) from by decide]
    unfold sp_glass; omega
  · refine ⟨?_, hu⟩
    rw [hr]
    rw [show ((-1) : Int32).toInt = (-1) from by decide]
    unfold sp_glass; omega
  · refine ⟨?_, hu⟩
    rw [hr]
    rw [show ((-1) : Int32).toInt = (-1) from by decide]
    unfold sp_glass; omega
  · refine ⟨?_, hu⟩
    rw [hr]
    rw [show ((-1) : Int32).toInt = (-1) from by decide]
    unfold sp_glass; omega
  · refine ⟨?_, hu⟩
    rw [hr]
    rw [show (0 : Int32).toInt = 0 from by decide]
    unfold sp_glass; omega
set_option maxHeartbeats 4000000 in
set_option maxRecDepth 100000 in
theorem sX_turn (l : Launch) (G : g5_G) (a0 a1 a2 a3 a4 a5 a6 a7 a8 a9 a10 a11 a12 a13 a14 a15 a16 a17 a18 a19 a20 : Nat) (sz : Nat) (n0 : Int32) (n1 : Int32) (n2 : Int32) : Met l yX11_turn (wsG yX11_turn cX11_turn 5 (some .int)) ({ frames := 2, cells := 0, slots := 0, locals := 41 }) (va_Pc [.ref a0, .int n0, .int n1, .int n2] (g5_P G [(a0, .inr (11, [.ref a1, .ref a2, .ref a3, .ref a4, .ref a5, .ref a6, .ref a7, .ref a8, .ref a9, .ref a10, .int 0, .int 0, .int (-1), .ref a11, .int 0, .ref a12, .int 0])), (a12, .inl (G.2 0, 5, .inl (fun _ => 0))), (a1, .inr (1, [.long 0, .int 1000, .int (-1), .int (-1), .int 0, .ref a13, .ref a14, .ref a15, .ref a16, .ref a17, .ref a18, .long 0, .ref a19])), (a14, .inr (6, [.int 6, .int 5, .ref a20, .int 0]))] sz)) (va_Qi (fun (r : Int32) (u : va_W) => r.toInt = sp_turn n0.toInt n1.toInt n2.toInt ∧ u = []) (g5_B G (va_A [(a0, .inr (11, [.ref a1, .ref a2, .ref a3, .ref a4, .ref a5, .ref a6, .ref a7, .ref a8, .ref a9, .ref a10, .int 0, .int 0, .int (-1), .ref a11, .int 0, .ref a12, .int 0])), (a12, .inl (G.2 0, 5, .inl (fun _ => 0))), (a1, .inr (1, [.long 0, .int 1000, .int (-1), .int (-1), .int 0, .ref a13, .ref a14, .ref a15, .ref a16, .ref a17, .ref a18, .long 0, .ref a19])), (a14, .inr (6, [.int 6, .int 5, .ref a20, .int 0]))] sz)) (va_A [(a0, .inr (11, [.ref a1, .ref a2, .ref a3, .ref a4, .ref a5, .ref a6, .ref a7, .ref a8, .ref a9, .ref a10, .int 0, .int 0, .int (-1), .ref a11, .int 0, .ref a12, .int 0])), (a12, .inl (G.2 0, 5, .inl (fun _ => 0))), (a1, .inr (1, [.long 0, .int 1000, .int (-1), .int (-1), .int 0, .ref a13, .ref a14, .ref a15, .ref a16, .ref a17, .ref a18, .long 0, .ref a19])), (a14, .inr (6, [.int 6, .int 5, .ref a20, .int 0]))] sz)) 0 0 (va_A [(a0, .inr (11, [.ref a1, .ref a2, .ref a3, .ref a4, .ref a5, .ref a6, .ref a7, .ref a8, .ref a9, .ref a10, .int 0, .int 0, .int (-1), .ref a11, .int 0, .ref a12, .int 0])), (a12, .inl (G.2 0, 5, .inl (fun _ => 0))), (a1, .inr (1, [.long 0, .int 1000, .int (-1), .int (-1), .int 0, .ref a13, .ref a14, .ref a15, .ref a16, .ref a17, .ref a18, .long 0, .ref a19])), (a14, .inr (6, [.int 6, .int 5, .ref a20, .int 0]))] sz) := by
  refine g5_wkI (kX11_turn l G a0 a1 a2 a3 a4 a5 a6 a7 a8 a9 a10 a11 a12 a13 a14 a15 a16 a17 a18 a19 a20 sz n0 n1 n2) (fun r u h => ?_)
  rcases h with ⟨i0, i1, hr, hu⟩ | ⟨i2, i3, i4, hr, hu⟩ | ⟨i5, i6, i7, i8, hr, hu⟩ | ⟨i9, i10, i11, i12, i13, hr, hu⟩ | ⟨i14, i15, hr, hu⟩ | ⟨i16, i17, i18, hr, hu⟩ | ⟨i19, i20, i21, i22, hr, hu⟩ | ⟨i23, i24, i25, i26, i27, hr, hu⟩ | ⟨i28, i29, hr, hu⟩ | ⟨i30, i31, i32, hr, hu⟩ | ⟨i33, i34, i35, i36, hr, hu⟩ | ⟨i37, i38, i39, i40, i41, hr, hu⟩ | ⟨i42, i43, hr, hu⟩ | ⟨i44, i45, i46, hr, hu⟩ | ⟨i47, i48, i49, i50, hr, hu⟩ | ⟨i51, i52, i53, i54, i55, hr, hu⟩ | ⟨i56, hr, hu⟩ | ⟨i57, hr, hu⟩
  · refine ⟨?_, hu⟩
    rw [hr]
    rw [show ((-1) : Int32).toInt = (-1) from by decide]
    have e := g5_inc n1; unfold sp_turn; omega
  · refine ⟨?_, hu⟩
    rw [hr]
    rw [show ((-1) : Int32).toInt = (-1) from by decide]
    have e := g5_inc n1; unfold sp_turn; omega
  · refine ⟨?_, hu⟩
    rw [hr]
    rw [show ((-2) : Int32).toInt = (-2) from by decide]
    have e := g5_inc n1; unfold sp_turn; omega
  · refine ⟨?_, hu⟩
    rw [hr]
    rw [show ((-2) : Int32).toInt = (-2) from by decide]
    have e := g5_inc n1; unfold sp_turn; omega
  · refine ⟨?_, hu⟩
    rw [hr]
    rw [show ((-1) : Int32).toInt = (-1) from by decide]
    have e := g5_inc n1; unfold sp_turn; omega
  · refine ⟨?_, hu⟩
    rw [hr]
    rw [show ((-1) : Int32).toInt = (-1) from by decide]
    have e := g5_inc n1; unfold sp_turn; omega
  · refine ⟨?_, hu⟩
    rw [hr]
    rw [show ((-2) : Int32).toInt = (-2) from by decide]
    have e := g5_inc n1; unfold sp_turn; omega
  · refine ⟨?_, hu⟩
    rw [hr]
    rw [show ((-2) : Int32).toInt = (-2) from by decide]
    have e := g5_inc n1; unfold sp_turn; omega
  · refine ⟨?_, hu⟩
    rw [hr]
    rw [show ((-1) : Int32).toInt = (-1) from by decide]
    have e := g5_inc n1; unfold sp_turn; omega
  · refine ⟨?_, hu⟩
    rw [hr]
    rw [show ((-1) : Int32).toInt = (-1) from by decide]
    have e := g5_inc n1; unfold sp_turn; omega
  · refine ⟨?_, hu⟩
    rw [hr]
    rw [show ((-2) : Int32).toInt = (-2) from by decide]
    have e := g5_inc n1; unfold sp_turn; omega
  · refine ⟨?_, hu⟩
    rw [hr]
    rw [show ((-2) : Int32).toInt = (-2) from by decide]
    have e := g5_inc n1; unfold sp_turn; omega
  · refine ⟨?_, hu⟩
    rw [hr]
    rw [show ((-1) : Int32).toInt = (-1) from by decide]
    have e := g5_inc n1; unfold sp_turn; omega
  · refine ⟨?_, hu⟩
    rw [hr]
    rw [show ((-1) : Int32).toInt = (-1) from by decide]
    have e := g5_inc n1; unfold sp_turn; omega
  · refine ⟨?_, hu⟩
    rw [hr]
    rw [show ((-2) : Int32).toInt = (-2) from by decide]
    have e := g5_inc n1; unfold sp_turn; omega
  · refine ⟨?_, hu⟩
    rw [hr]
    rw [show ((-2) : Int32).toInt = (-2) from by decide]
    have e := g5_inc n1; unfold sp_turn; omega
  · refine ⟨?_, hu⟩
    rw [hr]
    rw [show ((-1) : Int32).toInt = (-1) from by decide]
    have e := g5_inc n1; unfold sp_turn; omega
  · refine ⟨?_, hu⟩
    rw [hr]
    rw [show ((-1) : Int32).toInt = (-1) from by decide]
    have e := g5_inc n1; unfold sp_turn; omega
set_option maxHeartbeats 4000000 in
set_option maxRecDepth 100000 in
theorem sX_of (l : Launch) (G : g5_G) (a0 a1 a2 a3 a4 a5 a6 a7 a8 a9 a10 a11 a12 a13 a14 a15 a16 a17 a18 a19 a20 : Nat) (sz : Nat) (n0 : Int32) (n1 : Int32) : Met l yX11_of (wsG yX11_of cX11_of 3 (some .int)) ({ frames := 1, cells := 0, slots := 0, locals := 22 }) (va_Pc [.ref a0, .int n0, .int n1] (g5_P G [(a0, .inr (11, [.ref a1, .ref a2, .ref a3, .ref a4, .ref a5, .ref a6, .ref a7, .ref a8, .ref a9, .ref a10, .int 0, .int 0, .int (-1), .ref a11, .int 0, .ref a12, .int 0])), (a1, .inr (1, [.long 0, .int 1000, .int (-1), .int (-1), .int 0, .ref a13, .ref a14, .ref a15, .ref a16, .ref a17, .ref a18, .long 0, .ref a19])), (a14, .inr (6, [.int 6, .int 5, .ref a20, .int 0]))] sz)) (va_Qi (fun (r : Int32) (u : va_W) => r.toInt = sp_of n0.toInt n1.toInt ∧ u = []) (g5_B G (va_A [(a0, .inr (11, [.ref a1, .ref a2, .ref a3, .ref a4, .ref a5, .ref a6, .ref a7, .ref a8, .ref a9, .ref a10, .int 0, .int 0, .int (-1), .ref a11, .int 0, .ref a12, .int 0])), (a1, .inr (1, [.long 0, .int 1000, .int (-1), .int (-1), .int 0, .ref a13, .ref a14, .ref a15, .ref a16, .ref a17, .ref a18, .long 0, .ref a19])), (a14, .inr (6, [.int 6, .int 5, .ref a20, .int 0]))] sz)) (va_A [(a0, .inr (11, [.ref a1, .ref a2, .ref a3, .ref a4, .ref a5, .ref a6, .ref a7, .ref a8, .ref a9, .ref a10, .int 0, .int 0, .int (-1), .ref a11, .int 0, .ref a12, .int 0])), (a1, .inr (1, [.long 0, .int 1000, .int (-1), .int (-1), .int 0, .ref a13, .ref a14, .ref a15, .ref a16, .ref a17, .ref a18, .long 0, .ref a19])), (a14, .inr (6, [.int 6, .int 5, .ref a20, .int 0]))] sz)) 0 0 (va_A [(a0, .inr (11, [.ref a1, .ref a2, .ref a3, .ref a4, .ref a5, .ref a6, .ref a7, .ref a8, .ref a9, .ref a10, .int 0, .int 0, .int (-1), .ref a11, .int 0, .ref a12, .int 0])), (a1, .inr (1, [.long 0, .int 1000, .int (-1), .int (-1), .int 0, .ref a13, .ref a14, .ref a15, .ref a16, .ref a17, .ref a18, .long 0, .ref a19])), (a14, .inr (6, [.int 6, .int 5, .ref a20, .int 0]))] sz) := by
  refine g5_wkI (kX11_of l G a0 a1 a2 a3 a4 a5 a6 a7 a8 a9 a10 a11 a12 a13 a14 a15 a16 a17 a18 a19 a20 sz n0 n1) (fun r u h => ?_)
  rcases h with ⟨i0, hr, hu⟩ | ⟨i1, i2, hr, hu⟩
  · refine ⟨?_, hu⟩
    rw [hr]
    rw [show ((-1) : Int32).toInt = (-1) from by decide]
    unfold sp_of; omega
  · refine ⟨?_, hu⟩
    rw [hr]
    rw [show ((-1) : Int32).toInt = (-1) from by decide]
    unfold sp_of; omega
set_option maxHeartbeats 4000000 in
set_option maxRecDepth 100000 in
theorem sX_body (l : Launch) (G : g5_G) (a0 a1 a2 a3 a4 a5 a6 a7 a8 a9 a10 a11 a12 a13 a14 a15 a16 a17 a18 a19 a20 : Nat) (sz : Nat) : Met l yX11_body (wsG yX11_body cX11_body 1 (some .int)) ({ frames := 3, cells := 0, slots := 0, locals := 67 }) (va_Pc [.ref a0] (g5_P G [(a0, .inr (11, [.ref a1, .ref a2, .ref a3, .ref a4, .ref a5, .ref a6, .ref a7, .ref a8, .ref a9, .ref a10, .int 0, .int 0, .int (-1), .ref a11, .int 0, .ref a12, .int 0])), (a1, .inr (1, [.long 0, .int 1000, .int (-1), .int (-1), .int 0, .ref a13, .ref a14, .ref a15, .ref a16, .ref a17, .ref a18, .long 0, .ref a19])), (a15, .inr (6, [.int 5, .int 24, .ref a20, .int 0])), (a20, .inl (G.2 0, 120, .inl (fun _ => 0)))] sz)) (va_Qi (fun (r : Int32) (u : va_W) => r.toInt = sp_body ∧ u = []) (g5_B G (va_A [(a0, .inr (11, [.ref a1, .ref a2, .ref a3, .ref a4, .ref a5, .ref a6, .ref a7, .ref a8, .ref a9, .ref a10, .int 0, .int 0, .int (-1), .ref a11, .int 0, .ref a12, .int 0])), (a1, .inr (1, [.long 0, .int 1000, .int (-1), .int (-1), .int 0, .ref a13, .ref a14, .ref a15, .ref a16, .ref a17, .ref a18, .long 0, .ref a19])), (a15, .inr (6, [.int 5, .int 24, .ref a20, .int 0])), (a20, .inl (G.2 0, 120, .inl (fun _ => 0)))] sz)) (va_A [(a0, .inr (11, [.ref a1, .ref a2, .ref a3, .ref a4, .ref a5, .ref a6, .ref a7, .ref a8, .ref a9, .ref a10, .int 0, .int 0, .int (-1), .ref a11, .int 0, .ref a12, .int 0])), (a1, .inr (1, [.long 0, .int 1000, .int (-1), .int (-1), .int 0, .ref a13, .ref a14, .ref a15, .ref a16, .ref a17, .ref a18, .long 0, .ref a19])), (a15, .inr (6, [.int 5, .int 24, .ref a20, .int 0])), (a20, .inl (G.2 0, 120, .inl (fun _ => 0)))] sz)) 0 0 (va_A [(a0, .inr (11, [.ref a1, .ref a2, .ref a3, .ref a4, .ref a5, .ref a6, .ref a7, .ref a8, .ref a9, .ref a10, .int 0, .int 0, .int (-1), .ref a11, .int 0, .ref a12, .int 0])), (a1, .inr (1, [.long 0, .int 1000, .int (-1), .int (-1), .int 0, .ref a13, .ref a14, .ref a15, .ref a16, .ref a17, .ref a18, .long 0, .ref a19])), (a15, .inr (6, [.int 5, .int 24, .ref a20, .int 0])), (a20, .inl (G.2 0, 120, .inl (fun _ => 0)))] sz) := by
  refine g5_wkI (kX11_body l G a0 a1 a2 a3 a4 a5 a6 a7 a8 a9 a10 a11 a12 a13 a14 a15 a16 a17 a18 a19 a20 sz) (fun r u h => ?_)
  obtain ⟨hr, hu⟩ := h
  refine ⟨?_, hu⟩
  rw [hr]
  rw [show (0 : Int32).toInt = 0 from by decide]
  unfold sp_body; omega
set_option maxHeartbeats 4000000 in
set_option maxRecDepth 100000 in
theorem sX_stay (l : Launch) (G : g5_G) (a0 a1 a2 a3 a4 a5 a6 a7 a8 a9 a10 a11 a12 a13 a14 a15 a16 a17 a18 a19 a20 : Nat) (sz : Nat) (n0 : Int32) (n1 : Int32) (n2 : Int32) (n3 : Int32) : Met l yX11_stay (wsG yX11_stay cX11_stay 5 (some .int)) ({ frames := 2, cells := 0, slots := 0, locals := 42 }) (va_Pc [.ref a0, .int n0, .int n1, .int n2, .int n3] (g5_P G [(a0, .inr (11, [.ref a1, .ref a2, .ref a3, .ref a4, .ref a5, .ref a6, .ref a7, .ref a8, .ref a9, .ref a10, .int 0, .int 0, .int (-1), .ref a11, .int 0, .ref a12, .int 0])), (a12, .inl (G.2 0, 5, .inl (fun _ => 0))), (a1, .inr (1, [.long 0, .int 1000, .int (-1), .int (-1), .int 0, .ref a13, .ref a14, .ref a15, .ref a16, .ref a17, .ref a18, .long 0, .ref a19])), (a15, .inr (6, [.int 5, .int 24, .ref a20, .int 0]))] sz)) (va_Qi (fun (r : Int32) (u : va_W) => r.toInt = sp_stay n0.toInt n1.toInt n2.toInt n3.toInt ∧ u = []) (g5_B G (va_A [(a0, .inr (11, [.ref a1, .ref a2, .ref a3, .ref a4, .ref a5, .ref a6, .ref a7, .ref a8, .ref a9, .ref a10, .int 0, .int 0, .int (-1), .ref a11, .int 0, .ref a12, .int 0])), (a12, .inl (G.2 0, 5, .inl (fun _ => 0))), (a1, .inr (1, [.long 0, .int 1000, .int (-1), .int (-1), .int 0, .ref a13, .ref a14, .ref a15, .ref a16, .ref a17, .ref a18, .long 0, .ref a19])), (a15, .inr (6, [.int 5, .int 24, .ref a20, .int 0]))] sz)) (va_A [(a0, .inr (11, [.ref a1, .ref a2, .ref a3, .ref a4, .ref a5, .ref a6, .ref a7, .ref a8, .ref a9, .ref a10, .int 0, .int 0, .int (-1), .ref a11, .int 0, .ref a12, .int 0])), (a12, .inl (G.2 0, 5, .inl (fun _ => 0))), (a1, .inr (1, [.long 0, .int 1000, .int (-1), .int (-1), .int 0, .ref a13, .ref a14, .ref a15, .ref a16, .ref a17, .ref a18, .long 0, .ref a19])), (a15, .inr (6, [.int 5, .int 24, .ref a20, .int 0]))] sz)) 0 0 (va_A [(a0, .inr (11, [.ref a1, .ref a2, .ref a3, .ref a4, .ref a5, .ref a6, .ref a7, .ref a8, .ref a9, .ref a10, .int 0, .int 0, .int (-1), .ref a11, .int 0, .ref a12, .int 0])), (a12, .inl (G.2 0, 5, .inl (fun _ => 0))), (a1, .inr (1, [.long 0, .int 1000, .int (-1), .int (-1), .int 0, .ref a13, .ref a14, .ref a15, .ref a16, .ref a17, .ref a18, .long 0, .ref a19])), (a15, .inr (6, [.int 5, .int 24, .ref a20, .int 0]))] sz) := by
  refine g5_wkI (kX11_stay l G a0 a1 a2 a3 a4 a5 a6 a7 a8 a9 a10 a11 a12 a13 a14 a15 a16 a17 a18 a19 a20 sz n0 n1 n2 n3) (fun r u h => ?_)
  rcases h with ⟨i0, hr, hu⟩ | ⟨i1, i2, hr, hu⟩ | ⟨i3, i4, i5, hr, hu⟩ | ⟨i6, i7, i8, i9, hr, hu⟩ | ⟨i10, i11, i12, i13, i14, hr, hu⟩ | ⟨i15, i16, i17, i18, i19, i20, hr, hu⟩ | ⟨i21, i22, i23, i24, i25, i26, i27, hr, hu⟩ | ⟨i28, i29, i30, i31, i32, i33, i34, i35, hr, hu⟩ | ⟨i36, i37, i38, i39, i40, i41, i42, i43, i44, hr, hu⟩
  · refine ⟨?_, hu⟩
    rw [hr]
    rw [show ((-1) : Int32).toInt = (-1) from by decide]
    unfold sp_stay; omega
  · refine ⟨?_, hu⟩
    rw [hr]
    rw [show ((-1) : Int32).toInt = (-1) from by decide]
    unfold sp_stay; omega
  · refine ⟨?_, hu⟩
    rw [hr]
    rw [show ((-1) : Int32).toInt = (-1) from by decide]
    unfold sp_stay; omega
  · refine ⟨?_, hu⟩
    rw [hr]
    rw [show ((-1) : Int32).toInt = (-1) from by decide]
    unfold sp_stay; omega
  · refine ⟨?_, hu⟩
    rw [hr]
    rw [show ((-1) : Int32).toInt = (-1) from by decide]
    unfold sp_stay; omega
  · refine ⟨?_, hu⟩
    rw [hr]
    rw [show ((-1) : Int32).toInt = (-1) from by decide]
    unfold sp_stay; omega
  · refine ⟨?_, hu⟩
    rw [hr]
    rw [show ((-1) : Int32).toInt = (-1) from by decide]
    unfold sp_stay; omega
  · refine ⟨?_, hu⟩
    rw [hr]
    rw [show ((-2) : Int32).toInt = (-2) from by decide]
    unfold sp_stay; omega
  · refine ⟨?_, hu⟩
    rw [hr]
    rw [show ((-2) : Int32).toInt = (-2) from by decide]
    unfold sp_stay; omega
set_option maxHeartbeats 4000000 in
set_option maxRecDepth 100000 in
theorem sX_where (l : Launch) (G : g5_G) (a0 a1 a2 a3 a4 a5 a6 a7 a8 a9 a10 a11 a12 a13 a14 a15 a16 a17 a18 a19 a20 : Nat) (sz : Nat) (n0 : Int32) (n1 : Int32) : Met l yX11_where (wsG yX11_where cX11_where 3 (some .int)) ({ frames := 1, cells := 0, slots := 0, locals := 22 }) (va_Pc [.ref a0, .int n0, .int n1] (g5_P G [(a0, .inr (11, [.ref a1, .ref a2, .ref a3, .ref a4, .ref a5, .ref a6, .ref a7, .ref a8, .ref a9, .ref a10, .int 0, .int 0, .int (-1), .ref a11, .int 0, .ref a12, .int 0])), (a1, .inr (1, [.long 0, .int 1000, .int (-1), .int (-1), .int 0, .ref a13, .ref a14, .ref a15, .ref a16, .ref a17, .ref a18, .long 0, .ref a19])), (a15, .inr (6, [.int 5, .int 24, .ref a20, .int 0]))] sz)) (va_Qi (fun (r : Int32) (u : va_W) => r.toInt = sp_where n0.toInt n1.toInt ∧ u = []) (g5_B G (va_A [(a0, .inr (11, [.ref a1, .ref a2, .ref a3, .ref a4, .ref a5, .ref a6, .ref a7, .ref a8, .ref a9, .ref a10, .int 0, .int 0, .int (-1), .ref a11, .int 0, .ref a12, .int 0])), (a1, .inr (1, [.long 0, .int 1000, .int (-1), .int (-1), .int 0, .ref a13, .ref a14, .ref a15, .ref a16, .ref a17, .ref a18, .long 0, .ref a19])), (a15, .inr (6, [.int 5, .int 24, .ref a20, .int 0]))] sz)) (va_A [(a0, .inr (11, [.ref a1, .ref a2, .ref a3, .ref a4, .ref a5, .ref a6, .ref a7, .ref a8, .ref a9, .ref a10, .int 0, .int 0, .int (-1), .ref a11, .int 0, .ref a12, .int 0])), (a1, .inr (1, [.long 0, .int 1000, .int (-1), .int (-1), .int 0, .ref a13, .ref a14, .ref a15, .ref a16, .ref a17, .ref a18, .long 0, .ref a19])), (a15, .inr (6, [.int 5, .int 24, .ref a20, .int 0]))] sz)) 0 0 (va_A [(a0, .inr (11, [.ref a1, .ref a2, .ref a3, .ref a4, .ref a5, .ref a6, .ref a7, .ref a8, .ref a9, .ref a10, .int 0, .int 0, .int (-1), .ref a11, .int 0, .ref a12, .int 0])), (a1, .inr (1, [.long 0, .int 1000, .int (-1), .int (-1), .int 0, .ref a13, .ref a14, .ref a15, .ref a16, .ref a17, .ref a18, .long 0, .ref a19])), (a15, .inr (6, [.int 5, .int 24, .ref a20, .int 0]))] sz) := by
  refine g5_wkI (kX11_where l G a0 a1 a2 a3 a4 a5 a6 a7 a8 a9 a10 a11 a12 a13 a14 a15 a16 a17 a18 a19 a20 sz n0 n1) (fun r u h => ?_)
  rcases h with ⟨i0, hr, hu⟩ | ⟨i1, i2, hr, hu⟩
  · refine ⟨?_, hu⟩
    rw [hr]
    rw [show ((-1) : Int32).toInt = (-1) from by decide]
    unfold sp_where; omega
  · refine ⟨?_, hu⟩
    rw [hr]
    rw [show ((-1) : Int32).toInt = (-1) from by decide]
    unfold sp_where; omega
set_option maxHeartbeats 4000000 in
set_option maxRecDepth 100000 in
theorem sX_least (l : Launch) (G : g5_G) (a0 a1 a2 a3 a4 a5 a6 a7 a8 a9 a10 a11 a12 a13 a14 a15 a16 a17 a18 a19 : Nat) (sz : Nat) (n0 : Int32) : Met l yX11_least (wsG yX11_least cX11_least 3 (some .int)) ({ frames := 1, cells := 0, slots := 0, locals := 22 }) (va_Pc [.ref a0, .int n0] (g5_P G [(a0, .inr (11, [.ref a1, .ref a2, .ref a3, .ref a4, .ref a5, .ref a6, .ref a7, .ref a8, .ref a9, .ref a10, .int 0, .int 0, .int (-1), .ref a11, .int 0, .ref a12, .int 0])), (a12, .inl (G.2 0, 5, .inl (fun _ => 0))), (a1, .inr (1, [.long 0, .int 1000, .int (-1), .int (-1), .int 0, .ref a13, .ref a14, .ref a15, .ref a16, .ref a17, .ref a18, .long 0, .ref a19]))] sz)) (va_Qi (fun (r : Int32) (u : va_W) => r.toInt = sp_least n0.toInt ∧ u = []) (g5_B G (va_A [(a0, .inr (11, [.ref a1, .ref a2, .ref a3, .ref a4, .ref a5, .ref a6, .ref a7, .ref a8, .ref a9, .ref a10, .int 0, .int 0, .int (-1), .ref a11, .int 0, .ref a12, .int 0])), (a12, .inl (G.2 0, 5, .inl (fun _ => 0))), (a1, .inr (1, [.long 0, .int 1000, .int (-1), .int (-1), .int 0, .ref a13, .ref a14, .ref a15, .ref a16, .ref a17, .ref a18, .long 0, .ref a19]))] sz)) (va_A [(a0, .inr (11, [.ref a1, .ref a2, .ref a3, .ref a4, .ref a5, .ref a6, .ref a7, .ref a8, .ref a9, .ref a10, .int 0, .int 0, .int (-1), .ref a11, .int 0, .ref a12, .int 0])), (a12, .inl (G.2 0, 5, .inl (fun _ => 0))), (a1, .inr (1, [.long 0, .int 1000, .int (-1), .int (-1), .int 0, .ref a13, .ref a14, .ref a15, .ref a16, .ref a17, .ref a18, .long 0, .ref a19]))] sz)) 0 0 (va_A [(a0, .inr (11, [.ref a1, .ref a2, .ref a3, .ref a4, .ref a5, .ref a6, .ref a7, .ref a8, .ref a9, .ref a10, .int 0, .int 0, .int (-1), .ref a11, .int 0, .ref a12, .int 0])), (a12, .inl (G.2 0, 5, .inl (fun _ => 0))), (a1, .inr (1, [.long 0, .int 1000, .int (-1), .int (-1), .int 0, .ref a13, .ref a14, .ref a15, .ref a16, .ref a17, .ref a18, .long 0, .ref a19]))] sz) := by
  refine g5_wkI (kX11_least l G a0 a1 a2 a3 a4 a5 a6 a7 a8 a9 a10 a11 a12 a13 a14 a15 a16 a17 a18 a19 sz n0) (fun r u h => ?_)
  rcases h with ⟨i0, hr, hu⟩ | ⟨i1, i2, hr, hu⟩ | ⟨i3, i4, hr, hu⟩
  · refine ⟨?_, hu⟩
    rw [hr]
    rw [show ((-1) : Int32).toInt = (-1) from by decide]
    unfold sp_least; omega
  · refine ⟨?_, hu⟩
    rw [hr]
    rw [show (1000 : Int32).toInt = 1000 from by decide]
    unfold sp_least; omega
  · refine ⟨?_, hu⟩
    rw [hr]
    rw [show ((-1) : Int32).toInt = (-1) from by decide]
    unfold sp_least; omega
set_option maxHeartbeats 4000000 in
set_option maxRecDepth 100000 in
theorem sX_feed (l : Launch) (G : g5_G) (a0 a1 a2 a3 a4 a5 a6 a7 a8 a9 a10 a11 a12 : Nat) (sz : Nat) (n0 : Int32) (n1 : Int32) (n2 : Int32) (n3 : Int32) (n4 : Int32) : Met l yX11_feed (wsG yX11_feed cX11_feed 6 (some .int)) ({ frames := 1, cells := 0, slots := 0, locals := 22 }) (va_Pc [.ref a0, .int n0, .int n1, .int n2, .int n3, .int n4] (g5_P G [(a0, .inr (11, [.ref a1, .ref a2, .ref a3, .ref a4, .ref a5, .ref a6, .ref a7, .ref a8, .ref a9, .ref a10, .int 0, .int 0, .int (-1), .ref a11, .int 0, .ref a12, .int 0])), (a10, .inl (G.2 0, 400, .inl (fun _ => 0)))] sz)) (va_Qi (fun (r : Int32) (u : va_W) => r.toInt = sp_feed n0.toInt n1.toInt n2.toInt n3.toInt n4.toInt ∧ u = []) (g5_B G (va_A [(a0, .inr (11, [.ref a1, .ref a2, .ref a3, .ref a4, .ref a5, .ref a6, .ref a7, .ref a8, .ref a9, .ref a10, .int 0, .int 0, .int (-1), .ref a11, .int 0, .ref a12, .int 0])), (a10, .inl (G.2 0, 400, .inl (fun _ => 0)))] sz)) (va_A [(a0, .inr (11, [.ref a1, .ref a2, .ref a3, .ref a4, .ref a5, .ref a6, .ref a7, .ref a8, .ref a9, .ref a10, .int 0, .int 0, .int (-1), .ref a11, .int 0, .ref a12, .int 0])), (a10, .inl (G.2 0, 400, .inl (fun _ => 0)))] sz)) 0 0 (va_A [(a0, .inr (11, [.ref a1, .ref a2, .ref a3, .ref a4, .ref a5, .ref a6, .ref a7, .ref a8, .ref a9, .ref a10, .int 0, .int 0, .int (-1), .ref a11, .int 0, .ref a12, .int 0])), (a10, .inl (G.2 0, 400, .inl (fun _ => 0)))] sz) := by
  refine g5_wkI (kX11_feed l G a0 a1 a2 a3 a4 a5 a6 a7 a8 a9 a10 a11 a12 sz n0 n1 n2 n3 n4) (fun r u h => ?_)
  obtain ⟨hr, hu⟩ := h
  refine ⟨?_, hu⟩
  rw [hr]
  rw [show (20 : Int32).toInt = 20 from by decide]
  unfold sp_feed; omega
set_option maxHeartbeats 4000000 in
set_option maxRecDepth 100000 in
theorem sX_end (l : Launch) (G : g5_G) (a0 a1 a2 a3 a4 a5 a6 a7 a8 a9 a10 a11 a12 : Nat) (sz : Nat) (n0 : Int32) : Met l yX11_end (wsG yX11_end cX11_end 2 (some .int)) ({ frames := 0, cells := 0, slots := 0, locals := 0 }) (va_Pc [.ref a0, .int n0] (g5_P G [(a0, .inr (11, [.ref a1, .ref a2, .ref a3, .ref a4, .ref a5, .ref a6, .ref a7, .ref a8, .ref a9, .ref a10, .int 0, .int 0, .int (-1), .ref a11, .int 0, .ref a12, .int 0]))] sz)) (va_Qi (fun (r : Int32) (u : va_W) => r.toInt = sp_end n0.toInt ∧ u = []) (g5_B G (va_A [(a0, .inr (11, [.ref a1, .ref a2, .ref a3, .ref a4, .ref a5, .ref a6, .ref a7, .ref a8, .ref a9, .ref a10, .int 0, .int 0, .int (-1), .ref a11, .int 0, .ref a12, .int 0]))] sz)) (va_A [(a0, .inr (11, [.ref a1, .ref a2, .ref a3, .ref a4, .ref a5, .ref a6, .ref a7, .ref a8, .ref a9, .ref a10, .int 0, .int 0, .int (-1), .ref a11, .int 0, .ref a12, .int 0]))] sz)) 0 0 (va_A [(a0, .inr (11, [.ref a1, .ref a2, .ref a3, .ref a4, .ref a5, .ref a6, .ref a7, .ref a8, .ref a9, .ref a10, .int 0, .int 0, .int (-1), .ref a11, .int 0, .ref a12, .int 0]))] sz) := by
  refine g5_wkI (kX11_end l G a0 a1 a2 a3 a4 a5 a6 a7 a8 a9 a10 a11 a12 sz n0) (fun r u h => ?_)
  rcases h with ⟨i0, hr, hu⟩ | ⟨i1, i2, hr, hu⟩ | ⟨i3, i4, hr, hu⟩
  · refine ⟨?_, hu⟩
    rw [hr]
    rw [show ((-1) : Int32).toInt = (-1) from by decide]
    unfold sp_end; omega
  · refine ⟨?_, hu⟩
    rw [hr]
    unfold sp_end; omega
  · refine ⟨?_, hu⟩
    rw [hr]
    rw [show ((-1) : Int32).toInt = (-1) from by decide]
    unfold sp_end; omega
set_option maxHeartbeats 4000000 in
set_option maxRecDepth 100000 in
theorem sX_row (l : Launch) (G : g5_G) (a0 a1 a2 a3 a4 a5 a6 a7 a8 a9 a10 a11 a12 : Nat) (sz : Nat) : Met l yX11_row (wsG yX11_row cX11_row 4 (some .int)) ({ frames := 1, cells := 0, slots := 0, locals := 22 }) (va_Pc [.ref a0] (g5_P G [(a0, .inr (11, [.ref a1, .ref a2, .ref a3, .ref a4, .ref a5, .ref a6, .ref a7, .ref a8, .ref a9, .ref a10, .int 0, .int 0, .int (-1), .ref a11, .int 0, .ref a12, .int 0])), (a12, .inl (G.2 0, 5, .inl (fun _ => 0)))] sz)) (va_Qi (fun (r : Int32) (u : va_W) => r.toInt = sp_row ∧ u = []) (g5_B G (va_A [(a0, .inr (11, [.ref a1, .ref a2, .ref a3, .ref a4, .ref a5, .ref a6, .ref a7, .ref a8, .ref a9, .ref a10, .int 0, .int 0, .int (-1), .ref a11, .int 0, .ref a12, .int 0])), (a12, .inl (G.2 0, 5, .inl (fun _ => 0)))] sz)) (va_A [(a0, .inr (11, [.ref a1, .ref a2, .ref a3, .ref a4, .ref a5, .ref a6, .ref a7, .ref a8, .ref a9, .ref a10, .int 0, .int 0, .int (-1), .ref a11, .int 0, .ref a12, .int 0])), (a12, .inl (G.2 0, 5, .inl (fun _ => 0)))] sz)) 0 0 (va_A [(a0, .inr (11, [.ref a1, .ref a2, .ref a3, .ref a4, .ref a5, .ref a6, .ref a7, .ref a8, .ref a9, .ref a10, .int 0, .int 0, .int (-1), .ref a11, .int 0, .ref a12, .int 0])), (a12, .inl (G.2 0, 5, .inl (fun _ => 0)))] sz) := by
  refine g5_wkI (kX11_row l G a0 a1 a2 a3 a4 a5 a6 a7 a8 a9 a10 a11 a12 sz) (fun r u h => ?_)
  obtain ⟨hr, hu⟩ := h
  refine ⟨?_, hu⟩
  rw [hr]
  rw [show ((-6) : Int32).toInt = (-6) from by decide]
  unfold sp_row; omega
set_option maxHeartbeats 4000000 in
set_option maxRecDepth 100000 in
theorem sX_faded (l : Launch) (G : g5_G) (a0 a1 a2 a3 a4 a5 a6 a7 a8 a9 a10 a11 a12 : Nat) (sz : Nat) : Met l yX11_faded (wsG yX11_faded cX11_faded 1 (some .int)) ({ frames := 0, cells := 0, slots := 0, locals := 0 }) (va_Pc [.ref a0] (g5_P G [(a0, .inr (11, [.ref a1, .ref a2, .ref a3, .ref a4, .ref a5, .ref a6, .ref a7, .ref a8, .ref a9, .ref a10, .int 0, .int 0, .int (-1), .ref a11, .int 0, .ref a12, .int 0]))] sz)) (va_Qi (fun (r : Int32) (u : va_W) => r.toInt = sp_faded ∧ u = []) (g5_B G (va_A [(a0, .inr (11, [.ref a1, .ref a2, .ref a3, .ref a4, .ref a5, .ref a6, .ref a7, .ref a8, .ref a9, .ref a10, .int 0, .int 0, .int (-1), .ref a11, .int 0, .ref a12, .int 0]))] sz)) (va_A [(a0, .inr (11, [.ref a1, .ref a2, .ref a3, .ref a4, .ref a5, .ref a6, .ref a7, .ref a8, .ref a9, .ref a10, .int 0, .int 0, .int (-1), .ref a11, .int 0, .ref a12, .int 0]))] sz)) 0 0 (va_A [(a0, .inr (11, [.ref a1, .ref a2, .ref a3, .ref a4, .ref a5, .ref a6, .ref a7, .ref a8, .ref a9, .ref a10, .int 0, .int 0, .int (-1), .ref a11, .int 0, .ref a12, .int 0]))] sz) := by
  refine g5_wkI (kX11_faded l G a0 a1 a2 a3 a4 a5 a6 a7 a8 a9 a10 a11 a12 sz) (fun r u h => ?_)
  obtain ⟨hr, hu⟩ := h
  refine ⟨?_, hu⟩
  rw [hr]
  rw [show (0 : Int32).toInt = 0 from by decide]
  unfold sp_faded; omega
set_option maxHeartbeats 4000000 in
set_option maxRecDepth 100000 in
theorem sX_law (l : Launch) (G : g5_G) (a0 a1 a2 a3 a4 a5 a6 a7 a8 a9 a10 a11 a12 a13 a14 a15 a16 a17 a18 a19 a20 a21 a22 a23 a24 a25 a26 : Nat) (sz : Nat) : Met l yX11_law (wsG yX11_law cX11_law 3 (some .int)) ({ frames := 3, cells := 0, slots := 0, locals := 66 }) (va_Pc [.ref a0] (g5_P G [(a0, .inr (11, [.ref a1, .ref a2, .ref a3, .ref a4, .ref a5, .ref a6, .ref a7, .ref a8, .ref a9, .ref a10, .int 0, .int 0, .int (-1), .ref a11, .int 0, .ref a12, .int 0])), (a1, .inr (1, [.long 0, .int 1000, .int (-1), .int (-1), .int 0, .ref a13, .ref a14, .ref a15, .ref a16, .ref a17, .ref a18, .long 0, .ref a19])), (a9, .inr (4, [.ref a20, .ref a21, .ref a22, .ref a23, .int 0, .int 0, .int 0, .int (-1)])), (a20, .inr (8, [.ref a24, .ref a25, .ref a26])), (a26, .inl (G.2 0, 401, .inl (fun _ => 0))), (a24, .inl (G.2 0, 401, .inl (fun _ => 0))), (a12, .inl (G.2 0, 5, .inl (fun _ => 0)))] sz)) (va_Qi (fun (r : Int32) (u : va_W) => r.toInt = sp_law ∧ u = []) (g5_B G (va_A [(a0, .inr (11, [.ref a1, .ref a2, .ref a3, .ref a4, .ref a5, .ref a6, .ref a7, .ref a8, .ref a9, .ref a10, .int 0, .int 0, .int (-1), .ref a11, .int 0, .ref a12, .int 0])), (a1, .inr (1, [.long 0, .int 1000, .int (-1), .int (-1), .int 0, .ref a13, .ref a14, .ref a15, .ref a16, .ref a17, .ref a18, .long 0, .ref a19])), (a9, .inr (4, [.ref a20, .ref a21, .ref a22, .ref a23, .int 0, .int 0, .int 0, .int (-1)])), (a20, .inr (8, [.ref a24, .ref a25, .ref a26])), (a26, .inl (G.2 0, 401, .inl (fun _ => 0))), (a24, .inl (G.2 0, 401, .inl (fun _ => 0))), (a12, .inl (G.2 0, 5, .inl (fun _ => 0)))] sz)) (va_A [(a0, .inr (11, [.ref a1, .ref a2, .ref a3, .ref a4, .ref a5, .ref a6, .ref a7, .ref a8, .ref a9, .ref a10, .int 0, .int 0, .int (-1), .ref a11, .int 0, .ref a12, .int 0])), (a1, .inr (1, [.long 0, .int 1000, .int (-1), .int (-1), .int 0, .ref a13, .ref a14, .ref a15, .ref a16, .ref a17, .ref a18, .long 0, .ref a19])), (a9, .inr (4, [.ref a20, .ref a21, .ref a22, .ref a23, .int 0, .int 0, .int 0, .int (-1)])), (a20, .inr (8, [.ref a24, .ref a25, .ref a26])), (a26, .inl (G.2 0, 401, .inl (fun _ => 0))), (a24, .inl (G.2 0, 401, .inl (fun _ => 0))), (a12, .inl (G.2 0, 5, .inl (fun _ => 0)))] sz)) 0 0 (va_A [(a0, .inr (11, [.ref a1, .ref a2, .ref a3, .ref a4, .ref a5, .ref a6, .ref a7, .ref a8, .ref a9, .ref a10, .int 0, .int 0, .int (-1), .ref a11, .int 0, .ref a12, .int 0])), (a1, .inr (1, [.long 0, .int 1000, .int (-1), .int (-1), .int 0, .ref a13, .ref a14, .ref a15, .ref a16, .ref a17, .ref a18, .long 0, .ref a19])), (a9, .inr (4, [.ref a20, .ref a21, .ref a22, .ref a23, .int 0, .int 0, .int 0, .int (-1)])), (a20, .inr (8, [.ref a24, .ref a25, .ref a26])), (a26, .inl (G.2 0, 401, .inl (fun _ => 0))), (a24, .inl (G.2 0, 401, .inl (fun _ => 0))), (a12, .inl (G.2 0, 5, .inl (fun _ => 0)))] sz) := by
  refine g5_wkI (kX11_law l G a0 a1 a2 a3 a4 a5 a6 a7 a8 a9 a10 a11 a12 a13 a14 a15 a16 a17 a18 a19 a20 a21 a22 a23 a24 a25 a26 sz) (fun r u h => ?_)
  obtain ⟨hr, hu⟩ := h
  refine ⟨?_, hu⟩
  rw [hr]
  rw [show ((-6) : Int32).toInt = (-6) from by decide]
  unfold sp_law; omega
set_option maxHeartbeats 4000000 in
set_option maxRecDepth 100000 in
theorem sX_fault (l : Launch) (G : g5_G) (a0 a1 a2 a3 a4 a5 a6 a7 a8 a9 a10 a11 a12 : Nat) (sz : Nat) : Met l yX11_fault (wsG yX11_fault cX11_fault 1 (some .int)) ({ frames := 0, cells := 0, slots := 0, locals := 0 }) (va_Pc [.ref a0] (g5_P G [(a0, .inr (11, [.ref a1, .ref a2, .ref a3, .ref a4, .ref a5, .ref a6, .ref a7, .ref a8, .ref a9, .ref a10, .int 0, .int 0, .int (-1), .ref a11, .int 0, .ref a12, .int 0]))] sz)) (va_Qi (fun (r : Int32) (u : va_W) => r.toInt = sp_fault ∧ u = []) (g5_B G (va_A [(a0, .inr (11, [.ref a1, .ref a2, .ref a3, .ref a4, .ref a5, .ref a6, .ref a7, .ref a8, .ref a9, .ref a10, .int 0, .int 0, .int (-1), .ref a11, .int 0, .ref a12, .int 0]))] sz)) (va_A [(a0, .inr (11, [.ref a1, .ref a2, .ref a3, .ref a4, .ref a5, .ref a6, .ref a7, .ref a8, .ref a9, .ref a10, .int 0, .int 0, .int (-1), .ref a11, .int 0, .ref a12, .int 0]))] sz)) 0 0 (va_A [(a0, .inr (11, [.ref a1, .ref a2, .ref a3, .ref a4, .ref a5, .ref a6, .ref a7, .ref a8, .ref a9, .ref a10, .int 0, .int 0, .int (-1), .ref a11, .int 0, .ref a12, .int 0]))] sz) := by
  refine g5_wkI (kX11_fault l G a0 a1 a2 a3 a4 a5 a6 a7 a8 a9 a10 a11 a12 sz) (fun r u h => ?_)
  obtain ⟨hr, hu⟩ := h
  refine ⟨?_, hu⟩
  rw [hr]
  rw [show ((-1) : Int32).toInt = (-1) from by decide]
  unfold sp_fault; omega
set_option maxHeartbeats 4000000 in
set_option maxRecDepth 100000 in
theorem sX_force (l : Launch) (G : g5_G) (a0 a1 a2 a3 a4 a5 a6 a7 a8 a9 a10 a11 a12 a13 a14 a15 a16 a17 a18 a19 : Nat) (sz : Nat) (n0 : Int32) : Met l yX11_force (wsG yX11_force cX11_force 3 (some .int)) ({ frames := 1, cells := 0, slots := 0, locals := 22 }) (va_Pc [.ref a0, .int n0] (g5_P G [(a0, .inr (11, [.ref a1, .ref a2, .ref a3, .ref a4, .ref a5, .ref a6, .ref a7, .ref a8, .ref a9, .ref a10, .int 0, .int 0, .int (-1), .ref a11, .int 0, .ref a12, .int 0])), (a12, .inl (G.2 0, 5, .inl (fun _ => 0))), (a1, .inr (1, [.long 0, .int 1000, .int (-1), .int (-1), .int 0, .ref a13, .ref a14, .ref a15, .ref a16, .ref a17, .ref a18, .long 0, .ref a19]))] sz)) (va_Qi (fun (r : Int32) (u : va_W) => r.toInt = sp_force n0.toInt ∧ u = []) (g5_B G (va_A [(a0, .inr (11, [.ref a1, .ref a2, .ref a3, .ref a4, .ref a5, .ref a6, .ref a7, .ref a8, .ref a9, .ref a10, .int 0, .int 0, .int (-1), .ref a11, .int 0, .ref a12, .int 0])), (a12, .inl (G.2 0, 5, .inl (fun _ => 0))), (a1, .inr (1, [.long 0, .int 1000, .int (-1), .int (-1), .int 0, .ref a13, .ref a14, .ref a15, .ref a16, .ref a17, .ref a18, .long 0, .ref a19]))] sz)) (va_A [(a0, .inr (11, [.ref a1, .ref a2, .ref a3, .ref a4, .ref a5, .ref a6, .ref a7, .ref a8, .ref a9, .ref a10, .int 0, .int 0, .int (-1), .ref a11, .int 0, .ref a12, .int 0])), (a12, .inl (G.2 0, 5, .inl (fun _ => 0))), (a1, .inr (1, [.long 0, .int 1000, .int (-1), .int (-1), .int 0, .ref a13, .ref a14, .ref a15, .ref a16, .ref a17, .ref a18, .long 0, .ref a19]))] sz)) 0 0 (va_A [(a0, .inr (11, [.ref a1, .ref a2, .ref a3, .ref a4, .ref a5, .ref a6, .ref a7, .ref a8, .ref a9, .ref a10, .int 0, .int 0, .int (-1), .ref a11, .int 0, .ref a12, .int 0])), (a12, .inl (G.2 0, 5, .inl (fun _ => 0))), (a1, .inr (1, [.long 0, .int 1000, .int (-1), .int (-1), .int 0, .ref a13, .ref a14, .ref a15, .ref a16, .ref a17, .ref a18, .long 0, .ref a19]))] sz) := by
  refine g5_wkI (kX11_force l G a0 a1 a2 a3 a4 a5 a6 a7 a8 a9 a10 a11 a12 a13 a14 a15 a16 a17 a18 a19 sz n0) (fun r u h => ?_)
  rcases h with ⟨i0, hr, hu⟩ | ⟨i1, i2, hr, hu⟩ | ⟨i3, i4, hr, hu⟩
  · refine ⟨?_, hu⟩
    rw [hr]
    rw [show ((-2) : Int32).toInt = (-2) from by decide]
    unfold sp_force; omega
  · refine ⟨?_, hu⟩
    rw [hr]
    rw [show ((-1) : Int32).toInt = (-1) from by decide]
    unfold sp_force; omega
  · refine ⟨?_, hu⟩
    rw [hr]
    rw [show ((-2) : Int32).toInt = (-2) from by decide]
    unfold sp_force; omega
set_option maxHeartbeats 4000000 in
set_option maxRecDepth 100000 in
theorem sX_look (l : Launch) (G : g5_G) (a0 a1 a2 a3 a4 a5 a6 a7 a8 a9 a10 a11 a12 a13 a14 a15 a16 a17 a18 a19 a20 a21 a22 : Nat) (sz : Nat) (n0 : Int32) (n1 : Int32) (n2 : Int32) (n3 : Int32) : Met l yX11_look (wsG yX11_look cX11_look 5 (some .int)) ({ frames := 3, cells := 0, slots := 0, locals := 70 }) (va_Pc [.ref a0, .int n0, .int n1, .int n2, .int n3] (g5_P G [(a0, .inr (11, [.ref a1, .ref a2, .ref a3, .ref a4, .ref a5, .ref a6, .ref a7, .ref a8, .ref a9, .ref a10, .int 0, .int 0, .int (-1), .ref a11, .int 0, .ref a12, .int 0])), (a4, .inr (5, [.ref a1, .ref a13, .ref a14, .int 0, .int 0, .int 0, .int 0, .int 0, .int 0, .int 0, .int 0, .int 0, .int 0])), (a1, .inr (1, [.long 0, .int 1000, .int (-1), .int (-1), .int 0, .ref a15, .ref a16, .ref a17, .ref a18, .ref a19, .ref a20, .long 0, .ref a21])), (a14, .inl (G.2 0, 200, .inl (fun _ => 0))), (a21, .inl (G.2 1, 24, .inr (.inl (fun _ => 0)))), (a19, .inr (6, [.int 8, .int 5, .ref a22, .int 0]))] sz)) (va_Qi (fun (r : Int32) (u : va_W) => r.toInt = sp_look n0.toInt n1.toInt n2.toInt n3.toInt ∧ u = []) (g5_B G (va_A [(a0, .inr (11, [.ref a1, .ref a2, .ref a3, .ref a4, .ref a5, .ref a6, .ref a7, .ref a8, .ref a9, .ref a10, .int 0, .int 0, .int (-1), .ref a11, .int 0, .ref a12, .int 0])), (a4, .inr (5, [.ref a1, .ref a13, .ref a14, .int 0, .int 0, .int 0, .int 0, .int 0, .int 0, .int 0, .int 0, .int 0, .int 0])), (a1, .inr (1, [.long 0, .int 1000, .int (-1), .int (-1), .int 0, .ref a15, .ref a16, .ref a17, .ref a18, .ref a19, .ref a20, .long 0, .ref a21])), (a14, .inl (G.2 0, 200, .inl (fun _ => 0))), (a21, .inl (G.2 1, 24, .inr (.inl (fun _ => 0)))), (a19, .inr (6, [.int 8, .int 5, .ref a22, .int 0]))] sz)) (va_A [(a0, .inr (11, [.ref a1, .ref a2, .ref a3, .ref a4, .ref a5, .ref a6, .ref a7, .ref a8, .ref a9, .ref a10, .int 0, .int 0, .int (-1), .ref a11, .int 0, .ref a12, .int 0])), (a4, .inr (5, [.ref a1, .ref a13, .ref a14, .int 0, .int 0, .int 0, .int 0, .int 0, .int 0, .int 0, .int 0, .int 0, .int 0])), (a1, .inr (1, [.long 0, .int 1000, .int (-1), .int (-1), .int 0, .ref a15, .ref a16, .ref a17, .ref a18, .ref a19, .ref a20, .long 0, .ref a21])), (a14, .inl (G.2 0, 200, .inl (fun _ => 0))), (a21, .inl (G.2 1, 24, .inr (.inl (fun _ => 0)))), (a19, .inr (6, [.int 8, .int 5, .ref a22, .int 0]))] sz)) 0 0 (va_A [(a0, .inr (11, [.ref a1, .ref a2, .ref a3, .ref a4, .ref a5, .ref a6, .ref a7, .ref a8, .ref a9, .ref a10, .int 0, .int 0, .int (-1), .ref a11, .int 0, .ref a12, .int 0])), (a4, .inr (5, [.ref a1, .ref a13, .ref a14, .int 0, .int 0, .int 0, .int 0, .int 0, .int 0, .int 0, .int 0, .int 0, .int 0])), (a1, .inr (1, [.long 0, .int 1000, .int (-1), .int (-1), .int 0, .ref a15, .ref a16, .ref a17, .ref a18, .ref a19, .ref a20, .long 0, .ref a21])), (a14, .inl (G.2 0, 200, .inl (fun _ => 0))), (a21, .inl (G.2 1, 24, .inr (.inl (fun _ => 0)))), (a19, .inr (6, [.int 8, .int 5, .ref a22, .int 0]))] sz) := by
  refine g5_wkI (kX11_look l G a0 a1 a2 a3 a4 a5 a6 a7 a8 a9 a10 a11 a12 a13 a14 a15 a16 a17 a18 a19 a20 a21 a22 sz n0 n1 n2 n3) (fun r u h => ?_)
  rcases h with ⟨i0, hr, hu⟩ | ⟨i1, i2, hr, hu⟩ | ⟨i3, i4, i5, hr, hu⟩ | ⟨i6, i7, i8, i9, hr, hu⟩ | ⟨i10, i11, i12, i13, i14, hr, hu⟩ | ⟨i15, i16, i17, i18, i19, i20, hr, hu⟩ | ⟨z21, z22, z23, z24, i25, i26, i27, i28, i29, i30, i31, i32, i33, i34, i35, i36, i37, i38, hr, hu⟩ | ⟨z39, z40, z41, z42, i43, i44, i45, i46, i47, i48, i49, i50, i51, i52, i53, i54, i55, i56, hr, hu⟩ | ⟨z57, z58, z59, z60, i61, i62, i63, i64, i65, i66, i67, i68, i69, i70, i71, i72, i73, i74, hr, hu⟩ | ⟨z75, z76, z77, z78, i79, i80, i81, i82, i83, i84, i85, i86, i87, i88, i89, i90, i91, i92, hr, hu⟩ | ⟨z93, z94, z95, z96, i97, i98, i99, i100, i101, i102, i103, i104, i105, i106, i107, i108, i109, i110, hr, hu⟩ | ⟨z111, z112, z113, z114, i115, i116, i117, i118, i119, i120, i121, i122, i123, i124, i125, i126, i127, i128, hr, hu⟩ | ⟨z129, z130, z131, z132, i133, i134, i135, i136, i137, i138, i139, i140, i141, i142, i143, i144, i145, i146, hr, hu⟩ | ⟨z147, z148, z149, z150, i151, i152, i153, i154, i155, i156, i157, i158, i159, i160, i161, i162, i163, i164, hr, hu⟩ | ⟨z165, z166, z167, z168, i169, i170, i171, i172, i173, i174, i175, i176, i177, i178, i179, i180, i181, i182, hr, hu⟩ | ⟨z183, z184, z185, z186, i187, i188, i189, i190, i191, i192, i193, i194, i195, i196, i197, i198, i199, i200, hr, hu⟩ | ⟨z201, z202, z203, z204, i205, i206, i207, i208, i209, i210, i211, i212, i213, i214, i215, i216, i217, i218, hr, hu⟩ | ⟨z219, z220, z221, z222, i223, i224, i225, i226, i227, i228, i229, i230, i231, i232, i233, i234, i235, i236, hr, hu⟩ | ⟨z237, z238, z239, z240, i241, i242, i243, i244, i245, i246, i247, i248, i249, i250, i251, i252, i253, i254, hr, hu⟩ | ⟨z255, z256, z257, z258, i259, i260, i261, i262, i263, i264, i265, i266, i267, i268, i269, i270, i271, i272, hr, hu⟩ | ⟨z273, z274, z275, z276, i277, i278, i279, i280, i281, i282, i283, i284, i285, i286, i287, i288, i289, i290, hr, hu⟩ | ⟨z291, z292, z293, z294, i295, i296, i297, i298, i299, i300, i301, i302, i303, i304, i305, i306, i307, i308, hr, hu⟩ | ⟨z309, z310, z311, z312, i313, i314, i315, i316, i317, i318, i319, i320, i321, i322, i323, i324, i325, i326, hr, hu⟩ | ⟨z327, z328, z329, z330, i331, i332, i333, i334, i335, i336, i337, i338, i339, i340, i341, i342, i343, i344, hr, hu⟩ | ⟨z345, z346, z347, z348, i349, i350, i351, i352, i353, i354, i355, i356, i357, i358, i359, i360, i361, i362, hr, hu⟩ | ⟨z363, z364, z365, z366, i367, i368, i369, i370, i371, i372, i373, i374, i375, i376, i377, i378, i379, i380, hr, hu⟩ | ⟨z381, z382, z383, z384, i385, i386, i387, i388, i389, i390, i391, i392, i393, i394, i395, i396, i397, i398, hr, hu⟩ | ⟨z399, z400, z401, z402, i403, i404, i405, i406, i407, i408, i409, i410, i411, i412, i413, i414, i415, i416, hr, hu⟩ | ⟨z417, z418, z419, z420, i421, i422, i423, i424, i425, i426, i427, i428, i429, i430, i431, i432, i433, i434, hr, hu⟩ | ⟨z435, z436, z437, z438, i439, i440, i441, i442, i443, i444, i445, i446, i447, i448, i449, i450, i451, i452, hr, hu⟩ | ⟨z453, z454, z455, z456, i457, i458, i459, i460, i461, i462, i463, i464, i465, i466, i467, i468, i469, i470, hr, hu⟩ | ⟨z471, z472, z473, z474, i475, i476, i477, i478, i479, i480, i481, i482, i483, i484, i485, i486, i487, i488, hr, hu⟩ | ⟨z489, z490, z491, z492, i493, i494, i495, i496, i497, i498, i499, i500, i501, i502, i503, i504, i505, i506, hr, hu⟩ | ⟨z507, z508, z509, z510, i511, i512, i513, i514, i515, i516, i517, i518, i519, i520, i521, i522, i523, i524, hr, hu⟩
  · refine ⟨?_, hu⟩
    rw [hr]
    rw [show ((-1) : Int32).toInt = (-1) from by decide]
    unfold sp_look nW; omega
  · refine ⟨?_, hu⟩
    rw [hr]
    rw [show ((-1) : Int32).toInt = (-1) from by decide]
    unfold sp_look nW; omega
  · refine ⟨?_, hu⟩
    rw [hr]
    rw [show ((-1) : Int32).toInt = (-1) from by decide]
    unfold sp_look nW; omega
  · refine ⟨?_, hu⟩
    rw [hr]
    rw [show ((-1) : Int32).toInt = (-1) from by decide]
    unfold sp_look nW; omega
  · refine ⟨?_, hu⟩
    rw [hr]
    rw [show ((-1) : Int32).toInt = (-1) from by decide]
    unfold sp_look nW; omega
  · refine ⟨?_, hu⟩
    rw [hr]
    rw [show ((-1) : Int32).toInt = (-1) from by decide]
    unfold sp_look nW; omega
  · refine ⟨?_, hu⟩
    rw [hr]
    rw [show ((-1) : Int32).toInt = (-1) from by decide]
    unfold sp_look nW; omega
  · refine ⟨?_, hu⟩
    rw [hr]
    unfold sp_look nW; omega
  · refine ⟨?_, hu⟩
    rw [hr]
    unfold sp_look nW; omega
  · refine ⟨?_, hu⟩
    rw [hr]
    rw [show (1000000 : Int32).toInt = 1000000 from by decide]
    unfold sp_look nW; omega
  · refine ⟨?_, hu⟩
    rw [hr]
    rw [show (0 : Int32).toInt = 0 from by decide]
    unfold sp_look nW; omega
  · refine ⟨?_, hu⟩
    rw [hr]
    rw [show ((-1) : Int32).toInt = (-1) from by decide]
    unfold sp_look nW; omega
  · refine ⟨?_, hu⟩
    rw [hr]
    rw [show ((-1) : Int32).toInt = (-1) from by decide]
    unfold sp_look nW; omega
  · refine ⟨?_, hu⟩
    rw [hr]
    rw [show ((-1) : Int32).toInt = (-1) from by decide]
    unfold sp_look nW; omega
  · refine ⟨?_, hu⟩
    rw [hr]
    unfold sp_look nW; omega
  · refine ⟨?_, hu⟩
    rw [hr]
    unfold sp_look nW; omega
  · refine ⟨?_, hu⟩
    rw [hr]
    rw [show (1000000 : Int32).toInt = 1000000 from by decide]
    unfold sp_look nW; omega
  · refine ⟨?_, hu⟩
    rw [hr]
    rw [show (0 : Int32).toInt = 0 from by decide]
    unfold sp_look nW; omega
  · refine ⟨?_, hu⟩
    rw [hr]
    rw [show ((-1) : Int32).toInt = (-1) from by decide]
    unfold sp_look nW; omega
  · refine ⟨?_, hu⟩
    rw [hr]
    rw [show ((-1) : Int32).toInt = (-1) from by decide]
    unfold sp_look nW; omega
  · refine ⟨?_, hu⟩
    rw [hr]
    rw [show ((-1) : Int32).toInt = (-1) from by decide]
    unfold sp_look nW; omega
  · refine ⟨?_, hu⟩
    rw [hr]
    unfold sp_look nW; omega
  · refine ⟨?_, hu⟩
    rw [hr]
    unfold sp_look nW; omega
  · refine ⟨?_, hu⟩
    rw [hr]
    rw [show (1000000 : Int32).toInt = 1000000 from by decide]
    unfold sp_look nW; omega
  · refine ⟨?_, hu⟩
    rw [hr]
    rw [show (0 : Int32).toInt = 0 from by decide]
    unfold sp_look nW; omega
  · refine ⟨?_, hu⟩
    rw [hr]
    rw [show ((-1) : Int32).toInt = (-1) from by decide]
    unfold sp_look nW; omega
  · refine ⟨?_, hu⟩
    rw [hr]
    rw [show ((-1) : Int32).toInt = (-1) from by decide]
    unfold sp_look nW; omega
  · refine ⟨?_, hu⟩
    rw [hr]
    rw [show ((-1) : Int32).toInt = (-1) from by decide]
    unfold sp_look nW; omega
  · refine ⟨?_, hu⟩
    rw [hr]
    unfold sp_look nW; omega
  · refine ⟨?_, hu⟩
    rw [hr]
    unfold sp_look nW; omega
  · refine ⟨?_, hu⟩
    rw [hr]
    rw [show (1000000 : Int32).toInt = 1000000 from by decide]
    unfold sp_look nW; omega
  · refine ⟨?_, hu⟩
    rw [hr]
    rw [show (0 : Int32).toInt = 0 from by decide]
    unfold sp_look nW; omega
  · refine ⟨?_, hu⟩
    rw [hr]
    rw [show ((-1) : Int32).toInt = (-1) from by decide]
    unfold sp_look nW; omega
  · refine ⟨?_, hu⟩
    rw [hr]
    rw [show ((-1) : Int32).toInt = (-1) from by decide]
    unfold sp_look nW; omega
set_option maxHeartbeats 4000000 in
set_option maxRecDepth 100000 in
theorem sX_point (l : Launch) (G : g5_G) (a0 a1 a2 a3 a4 a5 a6 a7 a8 a9 a10 a11 a12 a13 a14 a15 a16 a17 a18 a19 a20 a21 a22 : Nat) (sz : Nat) (n0 : Int32) (n1 : Int32) (n2 : Int32) (n3 : Int32) : Met l yX11_point (wsG yX11_point cX11_point 5 (some .int)) ({ frames := 3, cells := 0, slots := 0, locals := 70 }) (va_Pc [.ref a0, .int n0, .int n1, .int n2, .int n3] (g5_P G [(a0, .inr (11, [.ref a1, .ref a2, .ref a3, .ref a4, .ref a5, .ref a6, .ref a7, .ref a8, .ref a9, .ref a10, .int 0, .int 0, .int (-1), .ref a11, .int 0, .ref a12, .int 0])), (a4, .inr (5, [.ref a1, .ref a13, .ref a14, .int 0, .int 0, .int 0, .int 0, .int 0, .int 0, .int 0, .int 0, .int 0, .int 0])), (a1, .inr (1, [.long 0, .int 1000, .int (-1), .int (-1), .int 0, .ref a15, .ref a16, .ref a17, .ref a18, .ref a19, .ref a20, .long 0, .ref a21])), (a14, .inl (G.2 0, 200, .inl (fun _ => 0))), (a21, .inl (G.2 1, 24, .inr (.inl (fun _ => 0)))), (a19, .inr (6, [.int 8, .int 5, .ref a22, .int 0]))] sz)) (va_Qi (fun (r : Int32) (u : va_W) => r.toInt = sp_point n0.toInt n1.toInt n2.toInt n3.toInt ∧ u = []) (g5_B G (va_A [(a0, .inr (11, [.ref a1, .ref a2, .ref a3, .ref a4, .ref a5, .ref a6, .ref a7, .ref a8, .ref a9, .ref a10, .int 0, .int 0, .int (-1), .ref a11, .int 0, .ref a12, .int 0])), (a4, .inr (5, [.ref a1, .ref a13, .ref a14, .int 0, .int 0, .int 0, .int 0, .int 0, .int 0, .int 0, .int 0, .int 0, .int 0])), (a1, .inr (1, [.long 0, .int 1000, .int (-1), .int (-1), .int 0, .ref a15, .ref a16, .ref a17, .ref a18, .ref a19, .ref a20, .long 0, .ref a21])), (a14, .inl (G.2 0, 200, .inl (fun _ => 0))), (a21, .inl (G.2 1, 24, .inr (.inl (fun _ => 0)))), (a19, .inr (6, [.int 8, .int 5, .ref a22, .int 0]))] sz)) (va_A [(a0, .inr (11, [.ref a1, .ref a2, .ref a3, .ref a4, .ref a5, .ref a6, .ref a7, .ref a8, .ref a9, .ref a10, .int 0, .int 0, .int (-1), .ref a11, .int 0, .ref a12, .int 0])), (a4, .inr (5, [.ref a1, .ref a13, .ref a14, .int 0, .int 0, .int 0, .int 0, .int 0, .int 0, .int 0, .int 0, .int 0, .int 0])), (a1, .inr (1, [.long 0, .int 1000, .int (-1), .int (-1), .int 0, .ref a15, .ref a16, .ref a17, .ref a18, .ref a19, .ref a20, .long 0, .ref a21])), (a14, .inl (G.2 0, 200, .inl (fun _ => 0))), (a21, .inl (G.2 1, 24, .inr (.inl (fun _ => 0)))), (a19, .inr (6, [.int 8, .int 5, .ref a22, .int 0]))] sz)) 0 0 (va_A [(a0, .inr (11, [.ref a1, .ref a2, .ref a3, .ref a4, .ref a5, .ref a6, .ref a7, .ref a8, .ref a9, .ref a10, .int 0, .int 0, .int (-1), .ref a11, .int 0, .ref a12, .int 0])), (a4, .inr (5, [.ref a1, .ref a13, .ref a14, .int 0, .int 0, .int 0, .int 0, .int 0, .int 0, .int 0, .int 0, .int 0, .int 0])), (a1, .inr (1, [.long 0, .int 1000, .int (-1), .int (-1), .int 0, .ref a15, .ref a16, .ref a17, .ref a18, .ref a19, .ref a20, .long 0, .ref a21])), (a14, .inl (G.2 0, 200, .inl (fun _ => 0))), (a21, .inl (G.2 1, 24, .inr (.inl (fun _ => 0)))), (a19, .inr (6, [.int 8, .int 5, .ref a22, .int 0]))] sz) := by
  refine g5_wkI (kX11_point l G a0 a1 a2 a3 a4 a5 a6 a7 a8 a9 a10 a11 a12 a13 a14 a15 a16 a17 a18 a19 a20 a21 a22 sz n0 n1 n2 n3) (fun r u h => ?_)
  rcases h with ⟨i0, hr, hu⟩ | ⟨i1, i2, hr, hu⟩ | ⟨i3, i4, i5, hr, hu⟩ | ⟨i6, i7, i8, i9, hr, hu⟩ | ⟨i10, i11, i12, i13, i14, hr, hu⟩ | ⟨i15, i16, i17, i18, i19, i20, hr, hu⟩ | ⟨z21, z22, z23, z24, i25, i26, i27, i28, i29, i30, i31, i32, i33, i34, i35, i36, i37, i38, hr, hu⟩ | ⟨z39, z40, z41, z42, i43, i44, i45, i46, i47, i48, i49, i50, i51, i52, i53, i54, i55, i56, i57, hr, hu⟩ | ⟨z58, z59, z60, z61, i62, i63, i64, i65, i66, i67, i68, i69, i70, i71, i72, i73, i74, i75, i76, i77, hr, hu⟩ | ⟨z78, z79, z80, z81, i82, i83, i84, i85, i86, i87, i88, i89, i90, i91, i92, i93, i94, i95, hr, hu⟩ | ⟨z96, z97, z98, z99, i100, i101, i102, i103, i104, i105, i106, i107, i108, i109, i110, i111, i112, i113, i114, hr, hu⟩ | ⟨z115, z116, z117, z118, i119, i120, i121, i122, i123, i124, i125, i126, i127, i128, i129, i130, i131, i132, i133, i134, hr, hu⟩ | ⟨z135, z136, z137, z138, i139, i140, i141, i142, i143, i144, i145, i146, i147, i148, i149, i150, i151, i152, hr, hu⟩ | ⟨z153, z154, z155, z156, i157, i158, i159, i160, i161, i162, i163, i164, i165, i166, i167, i168, i169, i170, i171, hr, hu⟩ | ⟨z172, z173, z174, z175, i176, i177, i178, i179, i180, i181, i182, i183, i184, i185, i186, i187, i188, i189, i190, i191, hr, hu⟩ | ⟨z192, z193, z194, z195, i196, i197, i198, i199, i200, i201, i202, i203, i204, i205, i206, i207, i208, i209, hr, hu⟩ | ⟨z210, z211, z212, z213, i214, i215, i216, i217, i218, i219, i220, i221, i222, i223, i224, i225, i226, i227, i228, hr, hu⟩ | ⟨z229, z230, z231, z232, i233, i234, i235, i236, i237, i238, i239, i240, i241, i242, i243, i244, i245, i246, i247, i248, hr, hu⟩
  · refine ⟨?_, hu⟩
    rw [hr]
    rw [show ((-1) : Int32).toInt = (-1) from by decide]
    unfold sp_point nW gW; omega
  · refine ⟨?_, hu⟩
    rw [hr]
    rw [show ((-1) : Int32).toInt = (-1) from by decide]
    unfold sp_point nW gW; omega
  · refine ⟨?_, hu⟩
    rw [hr]
    rw [show ((-1) : Int32).toInt = (-1) from by decide]
    unfold sp_point nW gW; omega
  · refine ⟨?_, hu⟩
    rw [hr]
    rw [show ((-1) : Int32).toInt = (-1) from by decide]
    unfold sp_point nW gW; omega
  · refine ⟨?_, hu⟩
    rw [hr]
    rw [show ((-1) : Int32).toInt = (-1) from by decide]
    unfold sp_point nW gW; omega
  · refine ⟨?_, hu⟩
    rw [hr]
    rw [show ((-1) : Int32).toInt = (-1) from by decide]
    unfold sp_point nW gW; omega
  · refine ⟨?_, hu⟩
    rw [hr]
    rw [show ((-1) : Int32).toInt = (-1) from by decide]
    unfold sp_point nW gW; omega
  · refine ⟨?_, hu⟩
    rw [hr]
    rw [show ((-1) : Int32).toInt = (-1) from by decide]
    unfold sp_point nW gW; omega
  · refine ⟨?_, hu⟩
    rw [hr]
    unfold sp_point nW gW; omega
  · refine ⟨?_, hu⟩
    rw [hr]
    rw [show ((-1) : Int32).toInt = (-1) from by decide]
    unfold sp_point nW gW; omega
  · refine ⟨?_, hu⟩
    rw [hr]
    rw [show ((-1) : Int32).toInt = (-1) from by decide]
    unfold sp_point nW gW; omega
  · refine ⟨?_, hu⟩
    rw [hr]
    unfold sp_point nW gW; omega
  · refine ⟨?_, hu⟩
    rw [hr]
    rw [show ((-1) : Int32).toInt = (-1) from by decide]
    unfold sp_point nW gW; omega
  · refine ⟨?_, hu⟩
    rw [hr]
    rw [show ((-1) : Int32).toInt = (-1) from by decide]
    unfold sp_point nW gW; omega
  · refine ⟨?_, hu⟩
    rw [hr]
    unfold sp_point nW gW; omega
  · refine ⟨?_, hu⟩
    rw [hr]
    rw [show ((-1) : Int32).toInt = (-1) from by decide]
    unfold sp_point nW gW; omega
  · refine ⟨?_, hu⟩
    rw [hr]
    rw [show ((-1) : Int32).toInt = (-1) from by decide]
    unfold sp_point nW gW; omega
  · refine ⟨?_, hu⟩
    rw [hr]
    unfold sp_point nW gW; omega
set_option maxHeartbeats 4000000 in
set_option maxRecDepth 100000 in
theorem sX_sees (l : Launch) (G : g5_G) (a0 a1 a2 a3 a4 a5 a6 a7 a8 a9 a10 a11 a12 a13 a14 a15 a16 a17 a18 a19 a20 a21 a22 : Nat) (sz : Nat) (n0 : Int32) (n1 : Int32) : Met l yX11_sees (wsG yX11_sees cX11_sees 3 (some .int)) ({ frames := 4, cells := 0, slots := 0, locals := 94 }) (va_Pc [.ref a0, .int n0, .int n1] (g5_P G [(a0, .inr (11, [.ref a1, .ref a2, .ref a3, .ref a4, .ref a5, .ref a6, .ref a7, .ref a8, .ref a9, .ref a10, .int 0, .int 0, .int (-1), .ref a11, .int 0, .ref a12, .int 0])), (a4, .inr (5, [.ref a1, .ref a13, .ref a14, .int 0, .int 0, .int 0, .int 0, .int 0, .int 0, .int 0, .int 0, .int 0, .int 0])), (a1, .inr (1, [.long 0, .int 1000, .int (-1), .int (-1), .int 0, .ref a15, .ref a16, .ref a17, .ref a18, .ref a19, .ref a20, .long 0, .ref a21])), (a14, .inl (G.2 0, 200, .inl (fun _ => 0))), (a21, .inl (G.2 1, 24, .inr (.inl (fun _ => 0)))), (a19, .inr (6, [.int 8, .int 5, .ref a22, .int 0]))] sz)) (va_Qi (fun (r : Int32) (u : va_W) => r.toInt = sp_sees n0.toInt n1.toInt ∧ u = []) (g5_B G (va_A [(a0, .inr (11, [.ref a1, .ref a2, .ref a3, .ref a4, .ref a5, .ref a6, .ref a7, .ref a8, .ref a9, .ref a10, .int 0, .int 0, .int (-1), .ref a11, .int 0, .ref a12, .int 0])), (a4, .inr (5, [.ref a1, .ref a13, .ref a14, .int 0, .int 0, .int 0, .int 0, .int 0, .int 0, .int 0, .int 0, .int 0, .int 0])), (a1, .inr (1, [.long 0, .int 1000, .int (-1), .int (-1), .int 0, .ref a15, .ref a16, .ref a17, .ref a18, .ref a19, .ref a20, .long 0, .ref a21])), (a14, .inl (G.2 0, 200, .inl (fun _ => 0))), (a21, .inl (G.2 1, 24, .inr (.inl (fun _ => 0)))), (a19, .inr (6, [.int 8, .int 5, .ref a22, .int 0]))] sz)) (va_A [(a0, .inr (11, [.ref a1, .ref a2, .ref a3, .ref a4, .ref a5, .ref a6, .ref a7, .ref a8, .ref a9, .ref a10, .int 0, .int 0, .int (-1), .ref a11, .int 0, .ref a12, .int 0])), (a4, .inr (5, [.ref a1, .ref a13, .ref a14, .int 0, .int 0, .int 0, .int 0, .int 0, .int 0, .int 0, .int 0, .int 0, .int 0])), (a1, .inr (1, [.long 0, .int 1000, .int (-1), .int (-1), .int 0, .ref a15, .ref a16, .ref a17, .ref a18, .ref a19, .ref a20, .long 0, .ref a21])), (a14, .inl (G.2 0, 200, .inl (fun _ => 0))), (a21, .inl (G.2 1, 24, .inr (.inl (fun _ => 0)))), (a19, .inr (6, [.int 8, .int 5, .ref a22, .int 0]))] sz)) 0 0 (va_A [(a0, .inr (11, [.ref a1, .ref a2, .ref a3, .ref a4, .ref a5, .ref a6, .ref a7, .ref a8, .ref a9, .ref a10, .int 0, .int 0, .int (-1), .ref a11, .int 0, .ref a12, .int 0])), (a4, .inr (5, [.ref a1, .ref a13, .ref a14, .int 0, .int 0, .int 0, .int 0, .int 0, .int 0, .int 0, .int 0, .int 0, .int 0])), (a1, .inr (1, [.long 0, .int 1000, .int (-1), .int (-1), .int 0, .ref a15, .ref a16, .ref a17, .ref a18, .ref a19, .ref a20, .long 0, .ref a21])), (a14, .inl (G.2 0, 200, .inl (fun _ => 0))), (a21, .inl (G.2 1, 24, .inr (.inl (fun _ => 0)))), (a19, .inr (6, [.int 8, .int 5, .ref a22, .int 0]))] sz) := by
  refine g5_wkI (kX11_sees l G a0 a1 a2 a3 a4 a5 a6 a7 a8 a9 a10 a11 a12 a13 a14 a15 a16 a17 a18 a19 a20 a21 a22 sz n0 n1) (fun r u h => ?_)
  rcases h with ⟨i0, hr, hu⟩ | ⟨i1, i2, hr, hu⟩ | ⟨i3, i4, i5, hr, hu⟩ | ⟨i6, i7, i8, i9, hr, hu⟩ | ⟨z10, z11, z12, z13, z14, z15, z16, z17, z18, z19, z20, z21, z22, z23, z24, z25, i26, i27, i28, i29, i30, i31, i32, i33, i34, i35, i36, i37, i38, i39, i40, i41, i42, i43, i44, i45, i46, i47, i48, i49, i50, i51, i52, i53, hr, hu⟩
  · refine ⟨?_, hu⟩
    rw [hr]
    rw [show ((-1) : Int32).toInt = (-1) from by decide]
    unfold sp_sees; omega
  · refine ⟨?_, hu⟩
    rw [hr]
    rw [show ((-1) : Int32).toInt = (-1) from by decide]
    unfold sp_sees; omega
  · refine ⟨?_, hu⟩
    rw [hr]
    rw [show ((-1) : Int32).toInt = (-1) from by decide]
    unfold sp_sees; omega
  · refine ⟨?_, hu⟩
    rw [hr]
    rw [show ((-1) : Int32).toInt = (-1) from by decide]
    unfold sp_sees; omega
  · refine ⟨?_, hu⟩
    rw [hr]
    rw [show (0 : Int32).toInt = 0 from by decide]
    unfold sp_sees; omega
set_option maxHeartbeats 4000000 in
set_option maxRecDepth 100000 in
theorem sX_late (l : Launch) (G : g5_G) (a0 a1 a2 a3 a4 a5 a6 a7 a8 a9 a10 a11 a12 a13 a14 a15 a16 a17 a18 a19 a20 : Nat) (sz : Nat) (n0 : Int32) (n1 : Int32) (n2 : Int32) : Met l yX11_late (wsG yX11_late cX11_late 5 (some .int)) ({ frames := 1, cells := 0, slots := 0, locals := 21 }) (va_Pc [.ref a0, .int n0, .int n1, .int n2] (g5_P G [(a0, .inr (11, [.ref a1, .ref a2, .ref a3, .ref a4, .ref a5, .ref a6, .ref a7, .ref a8, .ref a9, .ref a10, .int 0, .int 0, .int (-1), .ref a11, .int 0, .ref a12, .int 0])), (a1, .inr (1, [.long 0, .int 1000, .int (-1), .int (-1), .int 0, .ref a13, .ref a14, .ref a15, .ref a16, .ref a17, .ref a18, .long 0, .ref a19])), (a15, .inr (6, [.int 5, .int 24, .ref a20, .int 0]))] sz)) (va_Qi (fun (r : Int32) (u : va_W) => r.toInt = sp_late n0.toInt n1.toInt n2.toInt ∧ u = []) (g5_B G (va_A [(a0, .inr (11, [.ref a1, .ref a2, .ref a3, .ref a4, .ref a5, .ref a6, .ref a7, .ref a8, .ref a9, .ref a10, .int 0, .int 0, .int (-1), .ref a11, .int 0, .ref a12, .int 0])), (a1, .inr (1, [.long 0, .int 1000, .int (-1), .int (-1), .int 0, .ref a13, .ref a14, .ref a15, .ref a16, .ref a17, .ref a18, .long 0, .ref a19])), (a15, .inr (6, [.int 5, .int 24, .ref a20, .int 0]))] sz)) (va_A [(a0, .inr (11, [.ref a1, .ref a2, .ref a3, .ref a4, .ref a5, .ref a6, .ref a7, .ref a8, .ref a9, .ref a10, .int 0, .int 0, .int (-1), .ref a11, .int 0, .ref a12, .int 0])), (a1, .inr (1, [.long 0, .int 1000, .int (-1), .int (-1), .int 0, .ref a13, .ref a14, .ref a15, .ref a16, .ref a17, .ref a18, .long 0, .ref a19])), (a15, .inr (6, [.int 5, .int 24, .ref a20, .int 0]))] sz)) 0 0 (va_A [(a0, .inr (11, [.ref a1, .ref a2, .ref a3, .ref a4, .ref a5, .ref a6, .ref a7, .ref a8, .ref a9, .ref a10, .int 0, .int 0, .int (-1), .ref a11, .int 0, .ref a12, .int 0])), (a1, .inr (1, [.long 0, .int 1000, .int (-1), .int (-1), .int 0, .ref a13, .ref a14, .ref a15, .ref a16, .ref a17, .ref a18, .long 0, .ref a19])), (a15, .inr (6, [.int 5, .int 24, .ref a20, .int 0]))] sz) := by
  refine g5_wkI (kX11_late l G a0 a1 a2 a3 a4 a5 a6 a7 a8 a9 a10 a11 a12 a13 a14 a15 a16 a17 a18 a19 a20 sz n0 n1 n2) (fun r u h => ?_)
  rcases h with ⟨i0, hr, hu⟩ | ⟨i1, i2, hr, hu⟩
  · refine ⟨?_, hu⟩
    rw [hr]
    rw [show ((-1) : Int32).toInt = (-1) from by decide]
    unfold sp_late; omega
  · refine ⟨?_, hu⟩
    rw [hr]
    rw [show ((-1) : Int32).toInt = (-1) from by decide]
    unfold sp_late; omega
set_option maxHeartbeats 4000000 in
set_option maxRecDepth 100000 in
theorem sX_first (l : Launch) (G : g5_G) (a0 a1 a2 a3 a4 a5 a6 a7 a8 a9 a10 a11 a12 a13 a14 a15 a16 a17 a18 a19 a20 : Nat) (sz : Nat) (n0 : Int32) (n1 : Int32) : Met l yX11_first (wsG yX11_first cX11_first 7 (some .int)) ({ frames := 1, cells := 0, slots := 0, locals := 21 }) (va_Pc [.ref a0, .int n0, .int n1] (g5_P G [(a0, .inr (11, [.ref a1, .ref a2, .ref a3, .ref a4, .ref a5, .ref a6, .ref a7, .ref a8, .ref a9, .ref a10, .int 0, .int 0, .int (-1), .ref a11, .int 0, .ref a12, .int 0])), (a1, .inr (1, [.long 0, .int 1000, .int (-1), .int (-1), .int 0, .ref a13, .ref a14, .ref a15, .ref a16, .ref a17, .ref a18, .long 0, .ref a19])), (a15, .inr (6, [.int 5, .int 24, .ref a20, .int 0]))] sz)) (va_Qi (fun (r : Int32) (u : va_W) => r.toInt = sp_first n0.toInt n1.toInt ∧ u = []) (g5_B G (va_A [(a0, .inr (11, [.ref a1, .ref a2, .ref a3, .ref a4, .ref a5, .ref a6, .ref a7, .ref a8, .ref a9, .ref a10, .int 0, .int 0, .int (-1), .ref a11, .int 0, .ref a12, .int 0])), (a1, .inr (1, [.long 0, .int 1000, .int (-1), .int (-1), .int 0, .ref a13, .ref a14, .ref a15, .ref a16, .ref a17, .ref a18, .long 0, .ref a19])), (a15, .inr (6, [.int 5, .int 24, .ref a20, .int 0]))] sz)) (va_A [(a0, .inr (11, [.ref a1, .ref a2, .ref a3, .ref a4, .ref a5, .ref a6, .ref a7, .ref a8, .ref a9, .ref a10, .int 0, .int 0, .int (-1), .ref a11, .int 0, .ref a12, .int 0])), (a1, .inr (1, [.long 0, .int 1000, .int (-1), .int (-1), .int 0, .ref a13, .ref a14, .ref a15, .ref a16, .ref a17, .ref a18, .long 0, .ref a19])), (a15, .inr (6, [.int 5, .int 24, .ref a20, .int 0]))] sz)) 0 0 (va_A [(a0, .inr (11, [.ref a1, .ref a2, .ref a3, .ref a4, .ref a5, .ref a6, .ref a7, .ref a8, .ref a9, .ref a10, .int 0, .int 0, .int (-1), .ref a11, .int 0, .ref a12, .int 0])), (a1, .inr (1, [.long 0, .int 1000, .int (-1), .int (-1), .int 0, .ref a13, .ref a14, .ref a15, .ref a16, .ref a17, .ref a18, .long 0, .ref a19])), (a15, .inr (6, [.int 5, .int 24, .ref a20, .int 0]))] sz) := by
  refine g5_wkI (kX11_first l G a0 a1 a2 a3 a4 a5 a6 a7 a8 a9 a10 a11 a12 a13 a14 a15 a16 a17 a18 a19 a20 sz n0 n1) (fun r u h => ?_)
  rcases h with ⟨i0, hr, hu⟩ | ⟨i1, i2, hr, hu⟩
  · refine ⟨?_, hu⟩
    rw [hr]
    rw [show ((-1) : Int32).toInt = (-1) from by decide]
    unfold sp_first; omega
  · refine ⟨?_, hu⟩
    rw [hr]
    rw [show ((-1) : Int32).toInt = (-1) from by decide]
    unfold sp_first; omega
set_option maxHeartbeats 4000000 in
set_option maxRecDepth 100000 in
theorem sX_lit (l : Launch) (G : g5_G) (a0 a1 a2 a3 a4 a5 a6 a7 a8 a9 a10 a11 a12 a13 a14 a15 a16 a17 a18 a19 a20 a21 a22 : Nat) (sz : Nat) (n0 : Int32) (n1 : Int32) (n2 : Int32) : Met l yX11_lit (wsG yX11_lit cX11_lit 6 (some .int)) ({ frames := 4, cells := 0, slots := 0, locals := 96 }) (va_Pc [.ref a0, .int n0, .int n1, .int n2] (g5_P G [(a0, .inr (11, [.ref a1, .ref a2, .ref a3, .ref a4, .ref a5, .ref a6, .ref a7, .ref a8, .ref a9, .ref a10, .int 0, .int 0, .int (-1), .ref a11, .int 0, .ref a12, .int 0])), (a4, .inr (5, [.ref a1, .ref a13, .ref a14, .int 0, .int 0, .int 0, .int 0, .int 0, .int 0, .int 0, .int 0, .int 0, .int 0])), (a1, .inr (1, [.long 0, .int 1000, .int (-1), .int (-1), .int 0, .ref a15, .ref a16, .ref a17, .ref a18, .ref a19, .ref a20, .long 0, .ref a21])), (a14, .inl (G.2 0, 200, .inl (fun _ => 0))), (a21, .inl (G.2 1, 24, .inr (.inl (fun _ => 0)))), (a19, .inr (6, [.int 8, .int 5, .ref a22, .int 0]))] sz)) (va_Qi (fun (r : Int32) (u : va_W) => r.toInt = sp_lit n0.toInt n1.toInt n2.toInt ∧ u = []) (g5_B G (va_A [(a0, .inr (11, [.ref a1, .ref a2, .ref a3, .ref a4, .ref a5, .ref a6, .ref a7, .ref a8, .ref a9, .ref a10, .int 0, .int 0, .int (-1), .ref a11, .int 0, .ref a12, .int 0])), (a4, .inr (5, [.ref a1, .ref a13, .ref a14, .int 0, .int 0, .int 0, .int 0, .int 0, .int 0, .int 0, .int 0, .int 0, .int 0])), (a1, .inr (1, [.long 0, .int 1000, .int (-1), .int (-1), .int 0, .ref a15, .ref a16, .ref a17, .ref a18, .ref a19, .ref a20, .long 0, .ref a21])), (a14, .inl (G.2 0, 200, .inl (fun _ => 0))), (a21, .inl (G.2 1, 24, .inr (.inl (fun _ => 0)))), (a19, .inr (6, [.int 8, .int 5, .ref a22, .int 0]))] sz)) (va_A [(a0, .inr (11, [.ref a1, .ref a2, .ref a3, .ref a4, .ref a5, .ref a6, .ref a7, .ref a8, .ref a9, .ref a10, .int 0, .int 0, .int (-1), .ref a11, .int 0, .ref a12, .int 0])), (a4, .inr (5, [.ref a1, .ref a13, .ref a14, .int 0, .int 0, .int 0, .int 0, .int 0, .int 0, .int 0, .int 0, .int 0, .int 0])), (a1, .inr (1, [.long 0, .int 1000, .int (-1), .int (-1), .int 0, .ref a15, .ref a16, .ref a17, .ref a18, .ref a19, .ref a20, .long 0, .ref a21])), (a14, .inl (G.2 0, 200, .inl (fun _ => 0))), (a21, .inl (G.2 1, 24, .inr (.inl (fun _ => 0)))), (a19, .inr (6, [.int 8, .int 5, .ref a22, .int 0]))] sz)) 0 0 (va_A [(a0, .inr (11, [.ref a1, .ref a2, .ref a3, .ref a4, .ref a5, .ref a6, .ref a7, .ref a8, .ref a9, .ref a10, .int 0, .int 0, .int (-1), .ref a11, .int 0, .ref a12, .int 0])), (a4, .inr (5, [.ref a1, .ref a13, .ref a14, .int 0, .int 0, .int 0, .int 0, .int 0, .int 0, .int 0, .int 0, .int 0, .int 0])), (a1, .inr (1, [.long 0, .int 1000, .int (-1), .int (-1), .int 0, .ref a15, .ref a16, .ref a17, .ref a18, .ref a19, .ref a20, .long 0, .ref a21])), (a14, .inl (G.2 0, 200, .inl (fun _ => 0))), (a21, .inl (G.2 1, 24, .inr (.inl (fun _ => 0)))), (a19, .inr (6, [.int 8, .int 5, .ref a22, .int 0]))] sz) := by
  refine g5_wkI (kX11_lit l G a0 a1 a2 a3 a4 a5 a6 a7 a8 a9 a10 a11 a12 a13 a14 a15 a16 a17 a18 a19 a20 a21 a22 sz n0 n1 n2) (fun r u h => ?_)
  rcases h with ⟨i0, hr, hu⟩ | ⟨i1, i2, hr, hu⟩ | ⟨i3, i4, i5, hr, hu⟩ | ⟨i6, i7, i8, i9, hr, hu⟩ | ⟨i10, i11, i12, i13, i14, hr, hu⟩ | ⟨i15, i16, i17, i18, i19, i20, hr, hu⟩ | ⟨z21, i22, i23, i24, i25, i26, i27, i28, i29, i30, hr, hu⟩ | ⟨z31, i32, i33, i34, i35, i36, i37, i38, i39, i40, hr, hu⟩ | ⟨z41, i42, i43, i44, i45, i46, i47, i48, i49, hr, hu⟩
  · refine ⟨?_, hu⟩
    rw [hr]
    rw [show ((-1) : Int32).toInt = (-1) from by decide]
    unfold sp_lit; omega
  · refine ⟨?_, hu⟩
    rw [hr]
    rw [show ((-1) : Int32).toInt = (-1) from by decide]
    unfold sp_lit; omega
  · refine ⟨?_, hu⟩
    rw [hr]
    rw [show ((-1) : Int32).toInt = (-1) from by decide]
    unfold sp_lit; omega
  · refine ⟨?_, hu⟩
    rw [hr]
    rw [show ((-1) : Int32).toInt = (-1) from by decide]
    unfold sp_lit; omega
  · refine ⟨?_, hu⟩
    rw [hr]
    rw [show ((-1) : Int32).toInt = (-1) from by decide]
    unfold sp_lit; omega
  · refine ⟨?_, hu⟩
    rw [hr]
    rw [show ((-1) : Int32).toInt = (-1) from by decide]
    unfold sp_lit; omega
  · refine ⟨?_, hu⟩
    rw [hr]
    rw [show (0 : Int32).toInt = 0 from by decide]
    exact g5_lit0 (by rw [← i28]; exact i30) (by omega) (by omega) (by omega) (by omega) (by omega) (by omega)
  · refine ⟨?_, hu⟩
    rw [hr]
    rw [show (1 : Int32).toInt = 1 from by decide]
    exact g5_lit1 (by rw [← i38]; exact i40) (by omega) (by omega) (by omega) (by omega) (by omega) (by omega)
  · refine ⟨?_, hu⟩
    rw [hr]
    show (bc64 _).toInt = _; exact g5_lit14 i48 (by omega) (by omega) (by omega) (by omega) (by omega)
set_option maxHeartbeats 4000000 in
set_option maxRecDepth 100000 in
theorem sX_unseen (l : Launch) (G : g5_G) (a0 a1 a2 a3 a4 a5 a6 a7 a8 a9 a10 a11 a12 a13 a14 a15 a16 a17 a18 a19 a20 a21 : Nat) (sz : Nat) (n0 : Int32) : Met l yX11_unseen (wsG yX11_unseen cX11_unseen 4 (some .int)) ({ frames := 2, cells := 0, slots := 0, locals := 48 }) (va_Pc [.ref a0, .int n0] (g5_P G [(a0, .inr (11, [.ref a1, .ref a2, .ref a3, .ref a4, .ref a5, .ref a6, .ref a7, .ref a8, .ref a9, .ref a10, .int 0, .int 0, .int (-1), .ref a11, .int 0, .ref a12, .int 0])), (a5, .inr (10, [.ref a1, .ref a4, .ref a13])), (a13, .inl (G.2 1, 24, .inr (.inl (fun _ => 0)))), (a1, .inr (1, [.long 0, .int 1000, .int (-1), .int (-1), .int 0, .ref a14, .ref a15, .ref a16, .ref a17, .ref a18, .ref a19, .long 0, .ref a20])), (a16, .inr (6, [.int 5, .int 24, .ref a21, .int 0]))] sz)) (va_Qi (fun (r : Int32) (u : va_W) => r.toInt = sp_unseen n0.toInt ∧ u = []) (g5_B G (va_A [(a0, .inr (11, [.ref a1, .ref a2, .ref a3, .ref a4, .ref a5, .ref a6, .ref a7, .ref a8, .ref a9, .ref a10, .int 0, .int 0, .int (-1), .ref a11, .int 0, .ref a12, .int 0])), (a5, .inr (10, [.ref a1, .ref a4, .ref a13])), (a13, .inl (G.2 1, 24, .inr (.inl (fun _ => 0)))), (a1, .inr (1, [.long 0, .int 1000, .int (-1), .int (-1), .int 0, .ref a14, .ref a15, .ref a16, .ref a17, .ref a18, .ref a19, .long 0, .ref a20])), (a16, .inr (6, [.int 5, .int 24, .ref a21, .int 0]))] sz)) (va_A [(a0, .inr (11, [.ref a1, .ref a2, .ref a3, .ref a4, .ref a5, .ref a6, .ref a7, .ref a8, .ref a9, .ref a10, .int 0, .int 0, .int (-1), .ref a11, .int 0, .ref a12, .int 0])), (a5, .inr (10, [.ref a1, .ref a4, .ref a13])), (a13, .inl (G.2 1, 24, .inr (.inl (fun _ => 0)))), (a1, .inr (1, [.long 0, .int 1000, .int (-1), .int (-1), .int 0, .ref a14, .ref a15, .ref a16, .ref a17, .ref a18, .ref a19, .long 0, .ref a20])), (a16, .inr (6, [.int 5, .int 24, .ref a21, .int 0]))] sz)) 0 0 (va_A [(a0, .inr (11, [.ref a1, .ref a2, .ref a3, .ref a4, .ref a5, .ref a6, .ref a7, .ref a8, .ref a9, .ref a10, .int 0, .int 0, .int (-1), .ref a11, .int 0, .ref a12, .int 0])), (a5, .inr (10, [.ref a1, .ref a4, .ref a13])), (a13, .inl (G.2 1, 24, .inr (.inl (fun _ => 0)))), (a1, .inr (1, [.long 0, .int 1000, .int (-1), .int (-1), .int 0, .ref a14, .ref a15, .ref a16, .ref a17, .ref a18, .ref a19, .long 0, .ref a20])), (a16, .inr (6, [.int 5, .int 24, .ref a21, .int 0]))] sz) := by
  refine g5_wkI (kX11_unseen l G a0 a1 a2 a3 a4 a5 a6 a7 a8 a9 a10 a11 a12 a13 a14 a15 a16 a17 a18 a19 a20 a21 sz n0) (fun r u h => ?_)
  rcases h with ⟨i0, hr, hu⟩ | ⟨i1, i2, hr, hu⟩ | ⟨i3, i4, hr, hu⟩
  · refine ⟨?_, hu⟩
    rw [hr]
    rw [show ((-1) : Int32).toInt = (-1) from by decide]
    unfold sp_unseen; omega
  · refine ⟨?_, hu⟩
    rw [hr]
    rw [show ((-1) : Int32).toInt = (-1) from by decide]
    unfold sp_unseen; omega
  · refine ⟨?_, hu⟩
    rw [hr]
    rw [show (24 : Int32).toInt = 24 from by decide]
    unfold sp_unseen; omega
set_option maxHeartbeats 4000000 in
set_option maxRecDepth 100000 in
theorem sX_sighting (l : Launch) (G : g5_G) (a0 a1 a2 a3 a4 a5 a6 a7 a8 a9 a10 a11 a12 a13 a14 a15 a16 a17 a18 a19 a20 : Nat) (sz : Nat) (n0 : Int32) (n1 : Int32) (n2 : Int32) (n3 : Int32) : Met l yX11_sighting (wsG yX11_sighting cX11_sighting 6 (some .int)) ({ frames := 3, cells := 0, slots := 0, locals := 68 }) (va_Pc [.ref a0, .int n0, .int n1, .int n2, .int n3] (g5_P G [(a0, .inr (11, [.ref a1, .ref a2, .ref a3, .ref a4, .ref a5, .ref a6, .ref a7, .ref a8, .ref a9, .ref a10, .int 0, .int 0, .int (-1), .ref a11, .int 0, .ref a12, .int 0])), (a12, .inl (G.2 0, 5, .inl (fun _ => 0))), (a1, .inr (1, [.long 0, .int 1000, .int (-1), .int (-1), .int 0, .ref a13, .ref a14, .ref a15, .ref a16, .ref a17, .ref a18, .long 0, .ref a19])), (a16, .inr (6, [.int 10, .int 4, .ref a20, .int 0])), (a20, .inl (G.2 0, 40, .inl (fun _ => 0)))] sz)) (va_Qi (fun (r : Int32) (u : va_W) => r.toInt = sp_sighting n0.toInt n1.toInt n2.toInt n3.toInt ∧ u = []) (g5_B G (va_A [(a0, .inr (11, [.ref a1, .ref a2, .ref a3, .ref a4, .ref a5, .ref a6, .ref a7, .ref a8, .ref a9, .ref a10, .int 0, .int 0, .int (-1), .ref a11, .int 0, .ref a12, .int 0])), (a12, .inl (G.2 0, 5, .inl (fun _ => 0))), (a1, .inr (1, [.long 0, .int 1000, .int (-1), .int (-1), .int 0, .ref a13, .ref a14, .ref a15, .ref a16, .ref a17, .ref a18, .long 0, .ref a19])), (a16, .inr (6, [.int 10, .int 4, .ref a20, .int 0])), (a20, .inl (G.2 0, 40, .inl (fun _ => 0)))] sz)) (va_A [(a0, .inr (11, [.ref a1, .ref a2, .ref a3, .ref a4, .ref a5, .ref a6, .ref a7, .ref a8, .ref a9, .ref a10, .int 0, .int 0, .int (-1), .ref a11, .int 0, .ref a12, .int 0])), (a12, .inl (G.2 0, 5, .inl (fun _ => 0))), (a1, .inr (1, [.long 0, .int 1000, .int (-1), .int (-1), .int 0, .ref a13, .ref a14, .ref a15, .ref a16, .ref a17, .ref a18, .long 0, .ref a19])), (a16, .inr (6, [.int 10, .int 4, .ref a20, .int 0])), (a20, .inl (G.2 0, 40, .inl (fun _ => 0)))] sz)) 0 0 (va_A [(a0, .inr (11, [.ref a1, .ref a2, .ref a3, .ref a4, .ref a5, .ref a6, .ref a7, .ref a8, .ref a9, .ref a10, .int 0, .int 0, .int (-1), .ref a11, .int 0, .ref a12, .int 0])), (a12, .inl (G.2 0, 5, .inl (fun _ => 0))), (a1, .inr (1, [.long 0, .int 1000, .int (-1), .int (-1), .int 0, .ref a13, .ref a14, .ref a15, .ref a16, .ref a17, .ref a18, .long 0, .ref a19])), (a16, .inr (6, [.int 10, .int 4, .ref a20, .int 0])), (a20, .inl (G.2 0, 40, .inl (fun _ => 0)))] sz) := by
  refine g5_wkI (kX11_sighting l G a0 a1 a2 a3 a4 a5 a6 a7 a8 a9 a10 a11 a12 a13 a14 a15 a16 a17 a18 a19 a20 sz n0 n1 n2 n3) (fun r u h => ?_)
  rcases h with ⟨i0, hr, hu⟩ | ⟨i1, i2, hr, hu⟩ | ⟨i3, i4, i5, hr, hu⟩ | ⟨i6, i7, i8, i9, hr, hu⟩ | ⟨i10, i11, i12, i13, i14, hr, hu⟩ | ⟨i15, i16, i17, i18, i19, i20, hr, hu⟩ | ⟨i21, i22, i23, i24, i25, i26, i27, i28, hr, hu⟩ | ⟨i29, i30, i31, i32, i33, i34, i35, i36, hr, hu⟩ | ⟨i37, i38, i39, i40, i41, i42, i43, i44, i45, hr, hu⟩
  · refine ⟨?_, hu⟩
    rw [hr]
    rw [show ((-1) : Int32).toInt = (-1) from by decide]
    unfold sp_sighting; omega
  · refine ⟨?_, hu⟩
    rw [hr]
    rw [show ((-1) : Int32).toInt = (-1) from by decide]
    unfold sp_sighting; omega
  · refine ⟨?_, hu⟩
    rw [hr]
    rw [show ((-1) : Int32).toInt = (-1) from by decide]
    unfold sp_sighting; omega
  · refine ⟨?_, hu⟩
    rw [hr]
    rw [show ((-1) : Int32).toInt = (-1) from by decide]
    unfold sp_sighting; omega
  · refine ⟨?_, hu⟩
    rw [hr]
    rw [show ((-1) : Int32).toInt = (-1) from by decide]
    unfold sp_sighting; omega
  · refine ⟨?_, hu⟩
    rw [hr]
    rw [show ((-1) : Int32).toInt = (-1) from by decide]
    unfold sp_sighting; omega
  · refine ⟨?_, hu⟩
    rw [hr]
    rw [show (1 : Int32).toInt = 1 from by decide]
    unfold sp_sighting; omega
  · refine ⟨?_, hu⟩
    rw [hr]
    rw [show ((-1) : Int32).toInt = (-1) from by decide]
    unfold sp_sighting; omega
  · refine ⟨?_, hu⟩
    rw [hr]
    rw [show (1 : Int32).toInt = 1 from by decide]
    unfold sp_sighting; omega
set_option maxHeartbeats 4000000 in
set_option maxRecDepth 100000 in
theorem sX_drop (l : Launch) (G : g5_G) (a0 a1 a2 a3 a4 a5 a6 a7 a8 a9 a10 a11 a12 a13 a14 a15 a16 a17 a18 a19 a20 : Nat) (sz : Nat) (n0 : Int32) : Met l yX11_drop (wsG yX11_drop cX11_drop 2 (some .int)) ({ frames := 1, cells := 0, slots := 0, locals := 22 }) (va_Pc [.ref a0, .int n0] (g5_P G [(a0, .inr (11, [.ref a1, .ref a2, .ref a3, .ref a4, .ref a5, .ref a6, .ref a7, .ref a8, .ref a9, .ref a10, .int 0, .int 0, .int (-1), .ref a11, .int 0, .ref a12, .int 0])), (a1, .inr (1, [.long 0, .int 1000, .int (-1), .int (-1), .int 0, .ref a13, .ref a14, .ref a15, .ref a16, .ref a17, .ref a18, .long 0, .ref a19])), (a16, .inr (6, [.int 10, .int 4, .ref a20, .int 0])), (a12, .inl (G.2 0, 5, .inl (fun _ => 0)))] sz)) (va_Qi (fun (r : Int32) (u : va_W) => r.toInt = sp_drop n0.toInt ∧ u = []) (g5_B G (va_A [(a0, .inr (11, [.ref a1, .ref a2, .ref a3, .ref a4, .ref a5, .ref a6, .ref a7, .ref a8, .ref a9, .ref a10, .int 0, .int 0, .int (-1), .ref a11, .int 0, .ref a12, .int 0])), (a1, .inr (1, [.long 0, .int 1000, .int (-1), .int (-1), .int 0, .ref a13, .ref a14, .ref a15, .ref a16, .ref a17, .ref a18, .long 0, .ref a19])), (a16, .inr (6, [.int 10, .int 4, .ref a20, .int 0])), (a12, .inl (G.2 0, 5, .inl (fun _ => 0)))] sz)) (va_A [(a0, .inr (11, [.ref a1, .ref a2, .ref a3, .ref a4, .ref a5, .ref a6, .ref a7, .ref a8, .ref a9, .ref a10, .int 0, .int 0, .int (-1), .ref a11, .int 0, .ref a12, .int 0])), (a1, .inr (1, [.long 0, .int 1000, .int (-1), .int (-1), .int 0, .ref a13, .ref a14, .ref a15, .ref a16, .ref a17, .ref a18, .long 0, .ref a19])), (a16, .inr (6, [.int 10, .int 4, .ref a20, .int 0])), (a12, .inl (G.2 0, 5, .inl (fun _ => 0)))] sz)) 0 0 (va_A [(a0, .inr (11, [.ref a1, .ref a2, .ref a3, .ref a4, .ref a5, .ref a6, .ref a7, .ref a8, .ref a9, .ref a10, .int 0, .int 0, .int (-1), .ref a11, .int 0, .ref a12, .int 0])), (a1, .inr (1, [.long 0, .int 1000, .int (-1), .int (-1), .int 0, .ref a13, .ref a14, .ref a15, .ref a16, .ref a17, .ref a18, .long 0, .ref a19])), (a16, .inr (6, [.int 10, .int 4, .ref a20, .int 0])), (a12, .inl (G.2 0, 5, .inl (fun _ => 0)))] sz) := by
  refine g5_wkI (kX11_drop l G a0 a1 a2 a3 a4 a5 a6 a7 a8 a9 a10 a11 a12 a13 a14 a15 a16 a17 a18 a19 a20 sz n0) (fun r u h => ?_)
  rcases h with ⟨i0, hr, hu⟩ | ⟨i1, i2, hr, hu⟩
  · refine ⟨?_, hu⟩
    rw [hr]
    rw [show ((-2) : Int32).toInt = (-2) from by decide]
    unfold sp_drop; omega
  · refine ⟨?_, hu⟩
    rw [hr]
    rw [show ((-2) : Int32).toInt = (-2) from by decide]
    unfold sp_drop; omega
set_option maxHeartbeats 4000000 in
set_option maxRecDepth 100000 in
theorem sX_start (l : Launch) (G : g5_G) (a0 a1 a2 a3 a4 a5 a6 a7 a8 a9 a10 a11 a12 a13 a14 a15 a16 a17 a18 a19 : Nat) (sz : Nat) (n0 : Int32) : Met l yX11_start (wsG yX11_start cX11_start 3 (some .int)) ({ frames := 2, cells := 0, slots := 0, locals := 43 }) (va_Pc [.ref a0, .int n0] (g5_P G [(a0, .inr (11, [.ref a1, .ref a2, .ref a3, .ref a4, .ref a5, .ref a6, .ref a7, .ref a8, .ref a9, .ref a10, .int 0, .int 0, .int (-1), .ref a11, .int 0, .ref a12, .int 0])), (a12, .inl (G.2 0, 5, .inl (fun _ => 0))), (a1, .inr (1, [.long 0, .int 1000, .int (-1), .int (-1), .int 0, .ref a13, .ref a14, .ref a15, .ref a16, .ref a17, .ref a18, .long 0, .ref a19]))] sz)) (va_Qi (fun (r : Int32) (u : va_W) => r.toInt = sp_start n0.toInt ∧ u = []) (g5_B G (va_A [(a0, .inr (11, [.ref a1, .ref a2, .ref a3, .ref a4, .ref a5, .ref a6, .ref a7, .ref a8, .ref a9, .ref a10, .int 0, .int 0, .int (-1), .ref a11, .int 0, .ref a12, .int 0])), (a12, .inl (G.2 0, 5, .inl (fun _ => 0))), (a1, .inr (1, [.long 0, .int 1000, .int (-1), .int (-1), .int 0, .ref a13, .ref a14, .ref a15, .ref a16, .ref a17, .ref a18, .long 0, .ref a19]))] sz)) (va_A [(a0, .inr (11, [.ref a1, .ref a2, .ref a3, .ref a4, .ref a5, .ref a6, .ref a7, .ref a8, .ref a9, .ref a10, .int 0, .int 0, .int (-1), .ref a11, .int 0, .ref a12, .int 0])), (a12, .inl (G.2 0, 5, .inl (fun _ => 0))), (a1, .inr (1, [.long 0, .int 1000, .int (-1), .int (-1), .int 0, .ref a13, .ref a14, .ref a15, .ref a16, .ref a17, .ref a18, .long 0, .ref a19]))] sz)) 0 0 (va_A [(a0, .inr (11, [.ref a1, .ref a2, .ref a3, .ref a4, .ref a5, .ref a6, .ref a7, .ref a8, .ref a9, .ref a10, .int 0, .int 0, .int (-1), .ref a11, .int 0, .ref a12, .int 0])), (a12, .inl (G.2 0, 5, .inl (fun _ => 0))), (a1, .inr (1, [.long 0, .int 1000, .int (-1), .int (-1), .int 0, .ref a13, .ref a14, .ref a15, .ref a16, .ref a17, .ref a18, .long 0, .ref a19]))] sz) := by
  refine g5_wkI (kX11_start l G a0 a1 a2 a3 a4 a5 a6 a7 a8 a9 a10 a11 a12 a13 a14 a15 a16 a17 a18 a19 sz n0) (fun r u h => ?_)
  rcases h with ⟨i0, hr, hu⟩ | ⟨i1, i2, hr, hu⟩ | ⟨i3, i4, i5, hr, hu⟩ | ⟨i6, i7, i8, hr, hu⟩
  · refine ⟨?_, hu⟩
    rw [hr]
    rw [show ((-1) : Int32).toInt = (-1) from by decide]
    unfold sp_start; omega
  · refine ⟨?_, hu⟩
    rw [hr]
    rw [show ((-1) : Int32).toInt = (-1) from by decide]
    unfold sp_start; omega
  · refine ⟨?_, hu⟩
    rw [hr]
    rw [show ((-1) : Int32).toInt = (-1) from by decide]
    unfold sp_start; omega
  · refine ⟨?_, hu⟩
    rw [hr]
    rw [show ((-1) : Int32).toInt = (-1) from by decide]
    unfold sp_start; omega
set_option maxHeartbeats 4000000 in
set_option maxRecDepth 100000 in
theorem sX_fits (l : Launch) (G : g5_G) (a0 a1 a2 a3 a4 a5 a6 a7 a8 a9 a10 a11 a12 a13 a14 a15 a16 a17 a18 a19 a20 a21 a22 a23 a24 a25 a26 a27 : Nat) (sz : Nat) : Met l yX11_fits (wsG yX11_fits cX11_fits 1 (some .long)) ({ frames := 3, cells := 0, slots := 0, locals := 73 }) (va_Pc [.ref a0] (g5_P G [(a0, .inr (11, [.ref a1, .ref a2, .ref a3, .ref a4, .ref a5, .ref a6, .ref a7, .ref a8, .ref a9, .ref a10, .int 0, .int 0, .int (-1), .ref a11, .int 0, .ref a12, .int 0])), (a6, .inr (7, [.ref a1, .ref a4, .ref a13, .ref a14, .int 0, .ref a15, .ref a16, .ref a17, .ref a18, .ref a19])), (a1, .inr (1, [.long 0, .int 1000, .int (-1), .int (-1), .int 0, .ref a20, .ref a21, .ref a22, .ref a23, .ref a24, .ref a25, .long 0, .ref a26])), (a23, .inr (6, [.int 10, .int 4, .ref a27, .int 0])), (a13, .inl (G.2 1, 24, .inr (.inl (fun _ => 0)))), (a14, .inl (G.2 0, 1536, .inl (fun _ => 0))), (a15, .inl (G.2 1, 2048, .inr (.inl (fun _ => 0)))), (a16, .inl (G.2 1, 2048, .inr (.inl (fun _ => 0))))] sz)) (va_Ql (fun (r : Int64) (u : va_W) => r = cntF (fun _ => 0) ∧ u = []) (g5_B G (va_A [(a0, .inr (11, [.ref a1, .ref a2, .ref a3, .ref a4, .ref a5, .ref a6, .ref a7, .ref a8, .ref a9, .ref a10, .int 0, .int 0, .int (-1), .ref a11, .int 0, .ref a12, .int 0])), (a6, .inr (7, [.ref a1, .ref a4, .ref a13, .ref a14, .int 0, .ref a15, .ref a16, .ref a17, .ref a18, .ref a19])), (a1, .inr (1, [.long 0, .int 1000, .int (-1), .int (-1), .int 0, .ref a20, .ref a21, .ref a22, .ref a23, .ref a24, .ref a25, .long 0, .ref a26])), (a23, .inr (6, [.int 10, .int 4, .ref a27, .int 0])), (a13, .inl (G.2 1, 24, .inr (.inl (fun _ => 0)))), (a14, .inl (G.2 0, 1536, .inl (fun _ => 0))), (a15, .inl (G.2 1, 2048, .inr (.inl (fun _ => 0)))), (a16, .inl (G.2 1, 2048, .inr (.inl (fun _ => 0))))] sz)) (va_A [(a0, .inr (11, [.ref a1, .ref a2, .ref a3, .ref a4, .ref a5, .ref a6, .ref a7, .ref a8, .ref a9, .ref a10, .int 0, .int 0, .int (-1), .ref a11, .int 0, .ref a12, .int 0])), (a6, .inr (7, [.ref a1, .ref a4, .ref a13, .ref a14, .int 0, .ref a15, .ref a16, .ref a17, .ref a18, .ref a19])), (a1, .inr (1, [.long 0, .int 1000, .int (-1), .int (-1), .int 0, .ref a20, .ref a21, .ref a22, .ref a23, .ref a24, .ref a25, .long 0, .ref a26])), (a23, .inr (6, [.int 10, .int 4, .ref a27, .int 0])), (a13, .inl (G.2 1, 24, .inr (.inl (fun _ => 0)))), (a14, .inl (G.2 0, 1536, .inl (fun _ => 0))), (a15, .inl (G.2 1, 2048, .inr (.inl (fun _ => 0)))), (a16, .inl (G.2 1, 2048, .inr (.inl (fun _ => 0))))] sz)) 0 0 (va_A [(a0, .inr (11, [.ref a1, .ref a2, .ref a3, .ref a4, .ref a5, .ref a6, .ref a7, .ref a8, .ref a9, .ref a10, .int 0, .int 0, .int (-1), .ref a11, .int 0, .ref a12, .int 0])), (a6, .inr (7, [.ref a1, .ref a4, .ref a13, .ref a14, .int 0, .ref a15, .ref a16, .ref a17, .ref a18, .ref a19])), (a1, .inr (1, [.long 0, .int 1000, .int (-1), .int (-1), .int 0, .ref a20, .ref a21, .ref a22, .ref a23, .ref a24, .ref a25, .long 0, .ref a26])), (a23, .inr (6, [.int 10, .int 4, .ref a27, .int 0])), (a13, .inl (G.2 1, 24, .inr (.inl (fun _ => 0)))), (a14, .inl (G.2 0, 1536, .inl (fun _ => 0))), (a15, .inl (G.2 1, 2048, .inr (.inl (fun _ => 0)))), (a16, .inl (G.2 1, 2048, .inr (.inl (fun _ => 0))))] sz) := by
  refine g5_wkL (kX11_fits l G a0 a1 a2 a3 a4 a5 a6 a7 a8 a9 a10 a11 a12 a13 a14 a15 a16 a17 a18 a19 a20 a21 a22 a23 a24 a25 a26 a27 sz) (fun r u h => ?_)
  obtain ⟨z0, z1, z2, i3, hr, hu⟩ := h
  refine ⟨?_, hu⟩
  rw [hr]
  exact i3
set_option maxHeartbeats 4000000 in
set_option maxRecDepth 100000 in
theorem sX_could (l : Launch) (G : g5_G) (a0 a1 a2 a3 a4 a5 a6 a7 a8 a9 a10 a11 a12 a13 a14 a15 a16 a17 a18 a19 a20 a21 a22 a23 a24 a25 a26 a27 : Nat) (sz : Nat) (n0 : Int32) (n1 : Int32) : Met l yX11_could (wsG yX11_could cX11_could 3 (some .long)) ({ frames := 4, cells := 0, slots := 0, locals := 94 }) (va_Pc [.ref a0, .int n0, .int n1] (g5_P G [(a0, .inr (11, [.ref a1, .ref a2, .ref a3, .ref a4, .ref a5, .ref a6, .ref a7, .ref a8, .ref a9, .ref a10, .int 0, .int 0, .int (-1), .ref a11, .int 0, .ref a12, .int 0])), (a6, .inr (7, [.ref a1, .ref a4, .ref a13, .ref a14, .int 0, .ref a15, .ref a16, .ref a17, .ref a18, .ref a19])), (a1, .inr (1, [.long 0, .int 1000, .int (-1), .int (-1), .int 0, .ref a20, .ref a21, .ref a22, .ref a23, .ref a24, .ref a25, .long 0, .ref a26])), (a23, .inr (6, [.int 10, .int 4, .ref a27, .int 0])), (a13, .inl (G.2 1, 24, .inr (.inl (fun _ => 0)))), (a14, .inl (G.2 0, 1536, .inl (fun _ => 0))), (a15, .inl (G.2 1, 2048, .inr (.inl (fun _ => 0)))), (a16, .inl (G.2 1, 2048, .inr (.inl (fun _ => 0)))), (a17, .inl (G.2 0, 1536, .inl (fun _ => 0))), (a18, .inl (G.2 0, 64, .inl (fun _ => 0))), (a19, .inl (G.2 0, 64, .inl (fun _ => 0)))] sz)) (va_Ql (fun (r : Int64) (u : va_W) => r = spL_could n0.toInt n1.toInt ∧ u = []) (g5_B G (va_A [(a0, .inr (11, [.ref a1, .ref a2, .ref a3, .ref a4, .ref a5, .ref a6, .ref a7, .ref a8, .ref a9, .ref a10, .int 0, .int 0, .int (-1), .ref a11, .int 0, .ref a12, .int 0])), (a6, .inr (7, [.ref a1, .ref a4, .ref a13, .ref a14, .int 0, .ref a15, .ref a16, .ref a17, .ref a18, .ref a19])), (a1, .inr (1, [.long 0, .int 1000, .int (-1), .int (-1), .int 0, .ref a20, .ref a21, .ref a22, .ref a23, .ref a24, .ref a25, .long 0, .ref a26])), (a23, .inr (6, [.int 10, .int 4, .ref a27, .int 0])), (a13, .inl (G.2 1, 24, .inr (.inl (fun _ => 0)))), (a14, .inl (G.2 0, 1536, .inl (fun _ => 0))), (a15, .inl (G.2 1, 2048, .inr (.inl (fun _ => 0)))), (a16, .inl (G.2 1, 2048, .inr (.inl (fun _ => 0)))), (a17, .inl (G.2 0, 1536, .inl (fun _ => 0))), (a18, .inl (G.2 0, 64, .inl (fun _ => 0))), (a19, .inl (G.2 0, 64, .inl (fun _ => 0)))] sz)) (va_A [(a0, .inr (11, [.ref a1, .ref a2, .ref a3, .ref a4, .ref a5, .ref a6, .ref a7, .ref a8, .ref a9, .ref a10, .int 0, .int 0, .int (-1), .ref a11, .int 0, .ref a12, .int 0])), (a6, .inr (7, [.ref a1, .ref a4, .ref a13, .ref a14, .int 0, .ref a15, .ref a16, .ref a17, .ref a18, .ref a19])), (a1, .inr (1, [.long 0, .int 1000, .int (-1), .int (-1), .int 0, .ref a20, .ref a21, .ref a22, .ref a23, .ref a24, .ref a25, .long 0, .ref a26])), (a23, .inr (6, [.int 10, .int 4, .ref a27, .int 0])), (a13, .inl (G.2 1, 24, .inr (.inl (fun _ => 0)))), (a14, .inl (G.2 0, 1536, .inl (fun _ => 0))), (a15, .inl (G.2 1, 2048, .inr (.inl (fun _ => 0)))), (a16, .inl (G.2 1, 2048, .inr (.inl (fun _ => 0)))), (a17, .inl (G.2 0, 1536, .inl (fun _ => 0))), (a18, .inl (G.2 0, 64, .inl (fun _ => 0))), (a19, .inl (G.2 0, 64, .inl (fun _ => 0)))] sz)) 0 0 (va_A [(a0, .inr (11, [.ref a1, .ref a2, .ref a3, .ref a4, .ref a5, .ref a6, .ref a7, .ref a8, .ref a9, .ref a10, .int 0, .int 0, .int (-1), .ref a11, .int 0, .ref a12, .int 0])), (a6, .inr (7, [.ref a1, .ref a4, .ref a13, .ref a14, .int 0, .ref a15, .ref a16, .ref a17, .ref a18, .ref a19])), (a1, .inr (1, [.long 0, .int 1000, .int (-1), .int (-1), .int 0, .ref a20, .ref a21, .ref a22, .ref a23, .ref a24, .ref a25, .long 0, .ref a26])), (a23, .inr (6, [.int 10, .int 4, .ref a27, .int 0])), (a13, .inl (G.2 1, 24, .inr (.inl (fun _ => 0)))), (a14, .inl (G.2 0, 1536, .inl (fun _ => 0))), (a15, .inl (G.2 1, 2048, .inr (.inl (fun _ => 0)))), (a16, .inl (G.2 1, 2048, .inr (.inl (fun _ => 0)))), (a17, .inl (G.2 0, 1536, .inl (fun _ => 0))), (a18, .inl (G.2 0, 64, .inl (fun _ => 0))), (a19, .inl (G.2 0, 64, .inl (fun _ => 0)))] sz) := by
  refine g5_wkL (kX11_could l G a0 a1 a2 a3 a4 a5 a6 a7 a8 a9 a10 a11 a12 a13 a14 a15 a16 a17 a18 a19 a20 a21 a22 a23 a24 a25 a26 a27 sz n0 n1) (fun r u h => ?_)
  rcases h with ⟨i0, hr, hu⟩ | ⟨i1, i2, hr, hu⟩ | ⟨i3, i4, i5, hr, hu⟩ | ⟨i6, i7, i8, i9, hr, hu⟩ | ⟨z10, z11, z12, i13, i14, i15, i16, i17, i18, hr, hu⟩ | ⟨i19, i20, i21, i22, i23, hr, hu⟩
  · refine ⟨?_, hu⟩
    rw [hr]
    exact g5_couldN (by omega)
  · refine ⟨?_, hu⟩
    rw [hr]
    exact g5_couldN (by omega)
  · refine ⟨?_, hu⟩
    rw [hr]
    exact g5_couldN (by omega)
  · refine ⟨?_, hu⟩
    rw [hr]
    exact g5_couldN (by omega)
  · refine ⟨?_, hu⟩
    rw [hr]
    exact g5_could i18 (by omega) (by omega) (by omega) (by omega)
  · refine ⟨?_, hu⟩
    rw [hr]
    exact g5_could64 (by omega) (by omega)
set_option maxHeartbeats 4000000 in
set_option maxRecDepth 100000 in
theorem sX_path (l : Launch) (G : g5_G) (a0 a1 a2 a3 a4 a5 a6 a7 a8 a9 a10 a11 a12 a13 a14 a15 a16 a17 a18 a19 a20 a21 a22 a23 a24 a25 a26 a27 : Nat) (sz : Nat) (n0 : Int32) : Met l yX11_path (wsG yX11_path cX11_path 2 (some .int)) ({ frames := 4, cells := 0, slots := 0, locals := 94 }) (va_Pc [.ref a0, .int n0] (g5_P G [(a0, .inr (11, [.ref a1, .ref a2, .ref a3, .ref a4, .ref a5, .ref a6, .ref a7, .ref a8, .ref a9, .ref a10, .int 0, .int 0, .int (-1), .ref a11, .int 0, .ref a12, .int 0])), (a6, .inr (7, [.ref a1, .ref a4, .ref a13, .ref a14, .int 0, .ref a15, .ref a16, .ref a17, .ref a18, .ref a19])), (a1, .inr (1, [.long 0, .int 1000, .int (-1), .int (-1), .int 0, .ref a20, .ref a21, .ref a22, .ref a23, .ref a24, .ref a25, .long 0, .ref a26])), (a23, .inr (6, [.int 10, .int 4, .ref a27, .int 0])), (a13, .inl (G.2 1, 24, .inr (.inl (fun _ => 0)))), (a14, .inl (G.2 0, 1536, .inl (fun _ => 0))), (a17, .inl (G.2 0, 1536, .inl (fun _ => 0)))] sz)) (va_Qi (fun (r : Int32) (u : va_W) => r.toInt = sp_path n0.toInt ∧ u = []) (g5_B G (va_A [(a0, .inr (11, [.ref a1, .ref a2, .ref a3, .ref a4, .ref a5, .ref a6, .ref a7, .ref a8, .ref a9, .ref a10, .int 0, .int 0, .int (-1), .ref a11, .int 0, .ref a12, .int 0])), (a6, .inr (7, [.ref a1, .ref a4, .ref a13, .ref a14, .int 0, .ref a15, .ref a16, .ref a17, .ref a18, .ref a19])), (a1, .inr (1, [.long 0, .int 1000, .int (-1), .int (-1), .int 0, .ref a20, .ref a21, .ref a22, .ref a23, .ref a24, .ref a25, .long 0, .ref a26])), (a23, .inr (6, [.int 10, .int 4, .ref a27, .int 0])), (a13, .inl (G.2 1, 24, .inr (.inl (fun _ => 0)))), (a14, .inl (G.2 0, 1536, .inl (fun _ => 0))), (a17, .inl (G.2 0, 1536, .inl (fun _ => 0)))] sz)) (va_A [(a0, .inr (11, [.ref a1, .ref a2, .ref a3, .ref a4, .ref a5, .ref a6, .ref a7, .ref a8, .ref a9, .ref a10, .int 0, .int 0, .int (-1), .ref a11, .int 0, .ref a12, .int 0])), (a6, .inr (7, [.ref a1, .ref a4, .ref a13, .ref a14, .int 0, .ref a15, .ref a16, .ref a17, .ref a18, .ref a19])), (a1, .inr (1, [.long 0, .int 1000, .int (-1), .int (-1), .int 0, .ref a20, .ref a21, .ref a22, .ref a23, .ref a24, .ref a25, .long 0, .ref a26])), (a23, .inr (6, [.int 10, .int 4, .ref a27, .int 0])), (a13, .inl (G.2 1, 24, .inr (.inl (fun _ => 0)))), (a14, .inl (G.2 0, 1536, .inl (fun _ => 0))), (a17, .inl (G.2 0, 1536, .inl (fun _ => 0)))] sz)) 0 0 (va_A [(a0, .inr (11, [.ref a1, .ref a2, .ref a3, .ref a4, .ref a5, .ref a6, .ref a7, .ref a8, .ref a9, .ref a10, .int 0, .int 0, .int (-1), .ref a11, .int 0, .ref a12, .int 0])), (a6, .inr (7, [.ref a1, .ref a4, .ref a13, .ref a14, .int 0, .ref a15, .ref a16, .ref a17, .ref a18, .ref a19])), (a1, .inr (1, [.long 0, .int 1000, .int (-1), .int (-1), .int 0, .ref a20, .ref a21, .ref a22, .ref a23, .ref a24, .ref a25, .long 0, .ref a26])), (a23, .inr (6, [.int 10, .int 4, .ref a27, .int 0])), (a13, .inl (G.2 1, 24, .inr (.inl (fun _ => 0)))), (a14, .inl (G.2 0, 1536, .inl (fun _ => 0))), (a17, .inl (G.2 0, 1536, .inl (fun _ => 0)))] sz) := by
  refine g5_wkI (kX11_path l G a0 a1 a2 a3 a4 a5 a6 a7 a8 a9 a10 a11 a12 a13 a14 a15 a16 a17 a18 a19 a20 a21 a22 a23 a24 a25 a26 a27 sz n0) (fun r u h => ?_)
  rcases h with ⟨i0, hr, hu⟩ | ⟨i1, i2, hr, hu⟩ | ⟨i3, i4, hr, hu⟩
  · refine ⟨?_, hu⟩
    rw [hr]
    rw [show ((-1) : Int32).toInt = (-1) from by decide]
    unfold sp_path; omega
  · refine ⟨?_, hu⟩
    rw [hr]
    rw [show ((-1) : Int32).toInt = (-1) from by decide]
    unfold sp_path; omega
  · refine ⟨?_, hu⟩
    rw [hr]
    rw [show (0 : Int32).toInt = 0 from by decide]
    unfold sp_path; omega
set_option maxHeartbeats 4000000 in
set_option maxRecDepth 100000 in
theorem sX_core (l : Launch) (G : g5_G) (a0 a1 a2 a3 a4 a5 a6 a7 a8 a9 a10 a11 a12 a13 a14 a15 a16 a17 a18 a19 a20 a21 a22 a23 a24 a25 a26 a27 : Nat) (sz : Nat) : Met l yX11_core (wsG yX11_core cX11_core 1 (some .int)) ({ frames := 4, cells := 0, slots := 0, locals := 92 }) (va_Pc [.ref a0] (g5_P G [(a0, .inr (11, [.ref a1, .ref a2, .ref a3, .ref a4, .ref a5, .ref a6, .ref a7, .ref a8, .ref a9, .ref a10, .int 0, .int 0, .int (-1), .ref a11, .int 0, .ref a12, .int 0])), (a6, .inr (7, [.ref a1, .ref a4, .ref a13, .ref a14, .int 0, .ref a15, .ref a16, .ref a17, .ref a18, .ref a19])), (a1, .inr (1, [.long 0, .int 1000, .int (-1), .int (-1), .int 0, .ref a20, .ref a21, .ref a22, .ref a23, .ref a24, .ref a25, .long 0, .ref a26])), (a23, .inr (6, [.int 10, .int 4, .ref a27, .int 0])), (a13, .inl (G.2 1, 24, .inr (.inl (fun _ => 0)))), (a14, .inl (G.2 0, 1536, .inl (fun _ => 0))), (a17, .inl (G.2 0, 1536, .inl (fun _ => 0)))] sz)) (va_Qi (fun (r : Int32) (u : va_W) => r.toInt = sp_core ∧ u = []) (g5_B G (va_A [(a0, .inr (11, [.ref a1, .ref a2, .ref a3, .ref a4, .ref a5, .ref a6, .ref a7, .ref a8, .ref a9, .ref a10, .int 0, .int 0, .int (-1), .ref a11, .int 0, .ref a12, .int 0])), (a6, .inr (7, [.ref a1, .ref a4, .ref a13, .ref a14, .int 0, .ref a15, .ref a16, .ref a17, .ref a18, .ref a19])), (a1, .inr (1, [.long 0, .int 1000, .int (-1), .int (-1), .int 0, .ref a20, .ref a21, .ref a22, .ref a23, .ref a24, .ref a25, .long 0, .ref a26])), (a23, .inr (6, [.int 10, .int 4, .ref a27, .int 0])), (a13, .inl (G.2 1, 24, .inr (.inl (fun _ => 0)))), (a14, .inl (G.2 0, 1536, .inl (fun _ => 0))), (a17, .inl (G.2 0, 1536, .inl (fun _ => 0)))] sz)) (va_A [(a0, .inr (11, [.ref a1, .ref a2, .ref a3, .ref a4, .ref a5, .ref a6, .ref a7, .ref a8, .ref a9, .ref a10, .int 0, .int 0, .int (-1), .ref a11, .int 0, .ref a12, .int 0])), (a6, .inr (7, [.ref a1, .ref a4, .ref a13, .ref a14, .int 0, .ref a15, .ref a16, .ref a17, .ref a18, .ref a19])), (a1, .inr (1, [.long 0, .int 1000, .int (-1), .int (-1), .int 0, .ref a20, .ref a21, .ref a22, .ref a23, .ref a24, .ref a25, .long 0, .ref a26])), (a23, .inr (6, [.int 10, .int 4, .ref a27, .int 0])), (a13, .inl (G.2 1, 24, .inr (.inl (fun _ => 0)))), (a14, .inl (G.2 0, 1536, .inl (fun _ => 0))), (a17, .inl (G.2 0, 1536, .inl (fun _ => 0)))] sz)) 0 0 (va_A [(a0, .inr (11, [.ref a1, .ref a2, .ref a3, .ref a4, .ref a5, .ref a6, .ref a7, .ref a8, .ref a9, .ref a10, .int 0, .int 0, .int (-1), .ref a11, .int 0, .ref a12, .int 0])), (a6, .inr (7, [.ref a1, .ref a4, .ref a13, .ref a14, .int 0, .ref a15, .ref a16, .ref a17, .ref a18, .ref a19])), (a1, .inr (1, [.long 0, .int 1000, .int (-1), .int (-1), .int 0, .ref a20, .ref a21, .ref a22, .ref a23, .ref a24, .ref a25, .long 0, .ref a26])), (a23, .inr (6, [.int 10, .int 4, .ref a27, .int 0])), (a13, .inl (G.2 1, 24, .inr (.inl (fun _ => 0)))), (a14, .inl (G.2 0, 1536, .inl (fun _ => 0))), (a17, .inl (G.2 0, 1536, .inl (fun _ => 0)))] sz) := by
  refine g5_wkI (kX11_core l G a0 a1 a2 a3 a4 a5 a6 a7 a8 a9 a10 a11 a12 a13 a14 a15 a16 a17 a18 a19 a20 a21 a22 a23 a24 a25 a26 a27 sz) (fun r u h => ?_)
  obtain ⟨z0, i1, hr, hu⟩ := h
  refine ⟨?_, hu⟩
  rw [hr]
  rw [show (0 : Int32).toInt = 0 from by decide]
  unfold sp_core; omega
set_option maxHeartbeats 4000000 in
set_option maxRecDepth 100000 in
theorem sX_tells (l : Launch) (G : g5_G) (a0 a1 a2 a3 a4 a5 a6 a7 a8 a9 a10 a11 a12 a13 a14 a15 a16 a17 a18 a19 a20 a21 a22 a23 a24 a25 a26 a27 a28 a29 a30 : Nat) (sz : Nat) (n0 : Int32) (n1 : Int32) (n2 : Int32) : Met l yX11_tells (wsG yX11_tells cX11_tells 6 (some .long)) ({ frames := 3, cells := 0, slots := 0, locals := 73 }) (va_Pc [.ref a0, .int n0, .int n1, .int n2] (g5_P G [(a0, .inr (11, [.ref a1, .ref a2, .ref a3, .ref a4, .ref a5, .ref a6, .ref a7, .ref a8, .ref a9, .ref a10, .int 0, .int 0, .int (-1), .ref a11, .int 0, .ref a12, .int 0])), (a6, .inr (7, [.ref a1, .ref a4, .ref a13, .ref a14, .int 0, .ref a15, .ref a16, .ref a17, .ref a18, .ref a19])), (a1, .inr (1, [.long 0, .int 1000, .int (-1), .int (-1), .int 0, .ref a20, .ref a21, .ref a22, .ref a23, .ref a24, .ref a25, .long 0, .ref a26])), (a23, .inr (6, [.int 10, .int 4, .ref a27, .int 0])), (a13, .inl (G.2 1, 24, .inr (.inl (fun _ => 0)))), (a14, .inl (G.2 0, 1536, .inl (fun _ => 0))), (a15, .inl (G.2 1, 2048, .inr (.inl (fun _ => 0)))), (a16, .inl (G.2 1, 2048, .inr (.inl (fun _ => 0)))), (a4, .inr (5, [.ref a1, .ref a28, .ref a29, .int 0, .int 0, .int 0, .int 0, .int 0, .int 0, .int 0, .int 0, .int 0, .int 0])), (a29, .inl (G.2 0, 200, .inl (fun _ => 0))), (a26, .inl (G.2 1, 24, .inr (.inl (fun _ => 0)))), (a24, .inr (6, [.int 8, .int 5, .ref a30, .int 0]))] sz)) (va_Ql (fun (r : Int64) (u : va_W) => r = spL_tells n0.toInt n1.toInt n2.toInt ∧ u = []) (g5_B G (va_A [(a0, .inr (11, [.ref a1, .ref a2, .ref a3, .ref a4, .ref a5, .ref a6, .ref a7, .ref a8, .ref a9, .ref a10, .int 0, .int 0, .int (-1), .ref a11, .int 0, .ref a12, .int 0])), (a6, .inr (7, [.ref a1, .ref a4, .ref a13, .ref a14, .int 0, .ref a15, .ref a16, .ref a17, .ref a18, .ref a19])), (a1, .inr (1, [.long 0, .int 1000, .int (-1), .int (-1), .int 0, .ref a20, .ref a21, .ref a22, .ref a23, .ref a24, .ref a25, .long 0, .ref a26])), (a23, .inr (6, [.int 10, .int 4, .ref a27, .int 0])), (a13, .inl (G.2 1, 24, .inr (.inl (fun _ => 0)))), (a14, .inl (G.2 0, 1536, .inl (fun _ => 0))), (a15, .inl (G.2 1, 2048, .inr (.inl (fun _ => 0)))), (a16, .inl (G.2 1, 2048, .inr (.inl (fun _ => 0)))), (a4, .inr (5, [.ref a1, .ref a28, .ref a29, .int 0, .int 0, .int 0, .int 0, .int 0, .int 0, .int 0, .int 0, .int 0, .int 0])), (a29, .inl (G.2 0, 200, .inl (fun _ => 0))), (a26, .inl (G.2 1, 24, .inr (.inl (fun _ => 0)))), (a24, .inr (6, [.int 8, .int 5, .ref a30, .int 0]))] sz)) (va_A [(a0, .inr (11, [.ref a1, .ref a2, .ref a3, .ref a4, .ref a5, .ref a6, .ref a7, .ref a8, .ref a9, .ref a10, .int 0, .int 0, .int (-1), .ref a11, .int 0, .ref a12, .int 0])), (a6, .inr (7, [.ref a1, .ref a4, .ref a13, .ref a14, .int 0, .ref a15, .ref a16, .ref a17, .ref a18, .ref a19])), (a1, .inr (1, [.long 0, .int 1000, .int (-1), .int (-1), .int 0, .ref a20, .ref a21, .ref a22, .ref a23, .ref a24, .ref a25, .long 0, .ref a26])), (a23, .inr (6, [.int 10, .int 4, .ref a27, .int 0])), (a13, .inl (G.2 1, 24, .inr (.inl (fun _ => 0)))), (a14, .inl (G.2 0, 1536, .inl (fun _ => 0))), (a15, .inl (G.2 1, 2048, .inr (.inl (fun _ => 0)))), (a16, .inl (G.2 1, 2048, .inr (.inl (fun _ => 0)))), (a4, .inr (5, [.ref a1, .ref a28, .ref a29, .int 0, .int 0, .int 0, .int 0, .int 0, .int 0, .int 0, .int 0, .int 0, .int 0])), (a29, .inl (G.2 0, 200, .inl (fun _ => 0))), (a26, .inl (G.2 1, 24, .inr (.inl (fun _ => 0)))), (a24, .inr (6, [.int 8, .int 5, .ref a30, .int 0]))] sz)) 0 0 (va_A [(a0, .inr (11, [.ref a1, .ref a2, .ref a3, .ref a4, .ref a5, .ref a6, .ref a7, .ref a8, .ref a9, .ref a10, .int 0, .int 0, .int (-1), .ref a11, .int 0, .ref a12, .int 0])), (a6, .inr (7, [.ref a1, .ref a4, .ref a13, .ref a14, .int 0, .ref a15, .ref a16, .ref a17, .ref a18, .ref a19])), (a1, .inr (1, [.long 0, .int 1000, .int (-1), .int (-1), .int 0, .ref a20, .ref a21, .ref a22, .ref a23, .ref a24, .ref a25, .long 0, .ref a26])), (a23, .inr (6, [.int 10, .int 4, .ref a27, .int 0])), (a13, .inl (G.2 1, 24, .inr (.inl (fun _ => 0)))), (a14, .inl (G.2 0, 1536, .inl (fun _ => 0))), (a15, .inl (G.2 1, 2048, .inr (.inl (fun _ => 0)))), (a16, .inl (G.2 1, 2048, .inr (.inl (fun _ => 0)))), (a4, .inr (5, [.ref a1, .ref a28, .ref a29, .int 0, .int 0, .int 0, .int 0, .int 0, .int 0, .int 0, .int 0, .int 0, .int 0])), (a29, .inl (G.2 0, 200, .inl (fun _ => 0))), (a26, .inl (G.2 1, 24, .inr (.inl (fun _ => 0)))), (a24, .inr (6, [.int 8, .int 5, .ref a30, .int 0]))] sz) := by
  refine g5_wkL (kX11_tells l G a0 a1 a2 a3 a4 a5 a6 a7 a8 a9 a10 a11 a12 a13 a14 a15 a16 a17 a18 a19 a20 a21 a22 a23 a24 a25 a26 a27 a28 a29 a30 sz n0 n1 n2) (fun r u h => ?_)
  rcases h with ⟨i0, hr, hu⟩ | ⟨i1, i2, hr, hu⟩ | ⟨i3, i4, i5, hr, hu⟩ | ⟨i6, i7, i8, i9, hr, hu⟩ | ⟨i10, i11, i12, i13, i14, hr, hu⟩ | ⟨i15, i16, i17, i18, i19, i20, hr, hu⟩ | ⟨z21, z22, z23, z24, z25, z26, z27, z28, z29, z30, z31, i32, i33, i34, i35, i36, i37, i38, i39, i40, i41, i42, i43, i44, i45, i46, i47, hr, hu⟩ | ⟨z48, z49, z50, z51, z52, z53, z54, z55, z56, z57, z58, i59, i60, i61, i62, i63, i64, i65, i66, i67, i68, i69, i70, i71, i72, i73, i74, hr, hu⟩ | ⟨z75, z76, z77, z78, z79, z80, z81, z82, z83, z84, z85, i86, i87, i88, i89, i90, i91, i92, i93, i94, i95, i96, i97, i98, i99, i100, i101, hr, hu⟩ | ⟨z102, z103, z104, z105, z106, z107, z108, z109, z110, z111, z112, i113, i114, i115, i116, i117, i118, i119, i120, i121, i122, i123, i124, i125, i126, i127, i128, hr, hu⟩
  · refine ⟨?_, hu⟩
    rw [hr]
    exact g5_tellsN (by omega)
  · refine ⟨?_, hu⟩
    rw [hr]
    exact g5_tellsN (by omega)
  · refine ⟨?_, hu⟩
    rw [hr]
    exact g5_tellsN (by omega)
  · refine ⟨?_, hu⟩
    rw [hr]
    exact g5_tellsN (by omega)
  · refine ⟨?_, hu⟩
    rw [hr]
    exact g5_tellsN (by omega)
  · refine ⟨?_, hu⟩
    rw [hr]
    exact g5_tellsN (by omega)
  · refine ⟨?_, hu⟩
    rw [hr]
    exact g5_tells (by omega) i38 0 (by omega) (by unfold nW; simp only [reduceIte, Nat.reduceEqDiff]; omega) i46 i47
  · refine ⟨?_, hu⟩
    rw [hr]
    exact g5_tells (by omega) i65 1 (by omega) (by unfold nW; simp only [reduceIte, Nat.reduceEqDiff]; omega) i73 i74
  · refine ⟨?_, hu⟩
    rw [hr]
    exact g5_tells (by omega) i92 2 (by omega) (by unfold nW; simp only [reduceIte, Nat.reduceEqDiff]; omega) i100 i101
  · refine ⟨?_, hu⟩
    rw [hr]
    exact g5_tells (by omega) i119 3 (by omega) (by unfold nW; simp only [reduceIte, Nat.reduceEqDiff]; omega) i127 i128
set_option maxHeartbeats 4000000 in
set_option maxRecDepth 100000 in
theorem sX_surely (l : Launch) (G : g5_G) (a0 a1 a2 a3 a4 a5 a6 a7 a8 a9 a10 a11 a12 a13 a14 a15 a16 a17 a18 a19 a20 a21 a22 a23 a24 a25 a26 a27 : Nat) (sz : Nat) (n0 : Int32) : Met l yX11_surely (wsG yX11_surely cX11_surely 4 (some .int)) ({ frames := 4, cells := 0, slots := 0, locals := 94 }) (va_Pc [.ref a0, .int n0] (g5_P G [(a0, .inr (11, [.ref a1, .ref a2, .ref a3, .ref a4, .ref a5, .ref a6, .ref a7, .ref a8, .ref a9, .ref a10, .int 0, .int 0, .int (-1), .ref a11, .int 0, .ref a12, .int 0])), (a6, .inr (7, [.ref a1, .ref a4, .ref a13, .ref a14, .int 0, .ref a15, .ref a16, .ref a17, .ref a18, .ref a19])), (a1, .inr (1, [.long 0, .int 1000, .int (-1), .int (-1), .int 0, .ref a20, .ref a21, .ref a22, .ref a23, .ref a24, .ref a25, .long 0, .ref a26])), (a23, .inr (6, [.int 10, .int 4, .ref a27, .int 0])), (a13, .inl (G.2 1, 24, .inr (.inl (fun _ => 0)))), (a14, .inl (G.2 0, 1536, .inl (fun _ => 0))), (a17, .inl (G.2 0, 1536, .inl (fun _ => 0))), (a18, .inl (G.2 0, 64, .inl (fun _ => 0))), (a19, .inl (G.2 0, 64, .inl (fun _ => 0)))] sz)) (va_Qi (fun (r : Int32) (u : va_W) => r.toInt = sp_surely n0.toInt ∧ u = []) (g5_B G (va_A [(a0, .inr (11, [.ref a1, .ref a2, .ref a3, .ref a4, .ref a5, .ref a6, .ref a7, .ref a8, .ref a9, .ref a10, .int 0, .int 0, .int (-1), .ref a11, .int 0, .ref a12, .int 0])), (a6, .inr (7, [.ref a1, .ref a4, .ref a13, .ref a14, .int 0, .ref a15, .ref a16, .ref a17, .ref a18, .ref a19])), (a1, .inr (1, [.long 0, .int 1000, .int (-1), .int (-1), .int 0, .ref a20, .ref a21, .ref a22, .ref a23, .ref a24, .ref a25, .long 0, .ref a26])), (a23, .inr (6, [.int 10, .int 4, .ref a27, .int 0])), (a13, .inl (G.2 1, 24, .inr (.inl (fun _ => 0)))), (a14, .inl (G.2 0, 1536, .inl (fun _ => 0))), (a17, .inl (G.2 0, 1536, .inl (fun _ => 0))), (a18, .inl (G.2 0, 64, .inl (fun _ => 0))), (a19, .inl (G.2 0, 64, .inl (fun _ => 0)))] sz)) (va_A [(a0, .inr (11, [.ref a1, .ref a2, .ref a3, .ref a4, .ref a5, .ref a6, .ref a7, .ref a8, .ref a9, .ref a10, .int 0, .int 0, .int (-1), .ref a11, .int 0, .ref a12, .int 0])), (a6, .inr (7, [.ref a1, .ref a4, .ref a13, .ref a14, .int 0, .ref a15, .ref a16, .ref a17, .ref a18, .ref a19])), (a1, .inr (1, [.long 0, .int 1000, .int (-1), .int (-1), .int 0, .ref a20, .ref a21, .ref a22, .ref a23, .ref a24, .ref a25, .long 0, .ref a26])), (a23, .inr (6, [.int 10, .int 4, .ref a27, .int 0])), (a13, .inl (G.2 1, 24, .inr (.inl (fun _ => 0)))), (a14, .inl (G.2 0, 1536, .inl (fun _ => 0))), (a17, .inl (G.2 0, 1536, .inl (fun _ => 0))), (a18, .inl (G.2 0, 64, .inl (fun _ => 0))), (a19, .inl (G.2 0, 64, .inl (fun _ => 0)))] sz)) 0 0 (va_A [(a0, .inr (11, [.ref a1, .ref a2, .ref a3, .ref a4, .ref a5, .ref a6, .ref a7, .ref a8, .ref a9, .ref a10, .int 0, .int 0, .int (-1), .ref a11, .int 0, .ref a12, .int 0])), (a6, .inr (7, [.ref a1, .ref a4, .ref a13, .ref a14, .int 0, .ref a15, .ref a16, .ref a17, .ref a18, .ref a19])), (a1, .inr (1, [.long 0, .int 1000, .int (-1), .int (-1), .int 0, .ref a20, .ref a21, .ref a22, .ref a23, .ref a24, .ref a25, .long 0, .ref a26])), (a23, .inr (6, [.int 10, .int 4, .ref a27, .int 0])), (a13, .inl (G.2 1, 24, .inr (.inl (fun _ => 0)))), (a14, .inl (G.2 0, 1536, .inl (fun _ => 0))), (a17, .inl (G.2 0, 1536, .inl (fun _ => 0))), (a18, .inl (G.2 0, 64, .inl (fun _ => 0))), (a19, .inl (G.2 0, 64, .inl (fun _ => 0)))] sz) := by
  refine g5_wkI (kX11_surely l G a0 a1 a2 a3 a4 a5 a6 a7 a8 a9 a10 a11 a12 a13 a14 a15 a16 a17 a18 a19 a20 a21 a22 a23 a24 a25 a26 a27 sz n0) (fun r u h => ?_)
  rcases h with ⟨i0, hr, hu⟩ | ⟨i1, i2, hr, hu⟩ | ⟨i3, i4, hr, hu⟩
  · refine ⟨?_, hu⟩
    rw [hr]
    rw [show ((-1) : Int32).toInt = (-1) from by decide]
    unfold sp_surely; omega
  · refine ⟨?_, hu⟩
    rw [hr]
    rw [show ((-1) : Int32).toInt = (-1) from by decide]
    unfold sp_surely; omega
  · refine ⟨?_, hu⟩
    rw [hr]
    rw [show ((-1) : Int32).toInt = (-1) from by decide]
    unfold sp_surely; omega
set_option maxHeartbeats 4000000 in
set_option maxRecDepth 100000 in
theorem sX_spot (l : Launch) (G : g5_G) (a0 a1 a2 a3 a4 a5 a6 a7 a8 a9 a10 a11 a12 a13 a14 a15 a16 a17 a18 a19 a20 : Nat) (sz : Nat) (n0 : Int32) (n1 : Int32) (n2 : Int32) : Met l yX11_spot (wsG yX11_spot cX11_spot 5 (some .int)) ({ frames := 3, cells := 0, slots := 0, locals := 67 }) (va_Pc [.ref a0, .int n0, .int n1, .int n2] (g5_P G [(a0, .inr (11, [.ref a1, .ref a2, .ref a3, .ref a4, .ref a5, .ref a6, .ref a7, .ref a8, .ref a9, .ref a10, .int 0, .int 0, .int (-1), .ref a11, .int 0, .ref a12, .int 0])), (a12, .inl (G.2 0, 5, .inl (fun _ => 0))), (a1, .inr (1, [.long 0, .int 1000, .int (-1), .int (-1), .int 0, .ref a13, .ref a14, .ref a15, .ref a16, .ref a17, .ref a18, .long 0, .ref a19])), (a17, .inr (6, [.int 8, .int 5, .ref a20, .int 0])), (a20, .inl (G.2 0, 40, .inl (fun _ => 0)))] sz)) (va_Qi (fun (r : Int32) (u : va_W) => r.toInt = sp_spot n0.toInt n1.toInt n2.toInt ∧ u = []) (g5_B G (va_A [(a0, .inr (11, [.ref a1, .ref a2, .ref a3, .ref a4, .ref a5, .ref a6, .ref a7, .ref a8, .ref a9, .ref a10, .int 0, .int 0, .int (-1), .ref a11, .int 0, .ref a12, .int 0])), (a12, .inl (G.2 0, 5, .inl (fun _ => 0))), (a1, .inr (1, [.long 0, .int 1000, .int (-1), .int (-1), .int 0, .ref a13, .ref a14, .ref a15, .ref a16, .ref a17, .ref a18, .long 0, .ref a19])), (a17, .inr (6, [.int 8, .int 5, .ref a20, .int 0])), (a20, .inl (G.2 0, 40, .inl (fun _ => 0)))] sz)) (va_A [(a0, .inr (11, [.ref a1, .ref a2, .ref a3, .ref a4, .ref a5, .ref a6, .ref a7, .ref a8, .ref a9, .ref a10, .int 0, .int 0, .int (-1), .ref a11, .int 0, .ref a12, .int 0])), (a12, .inl (G.2 0, 5, .inl (fun _ => 0))), (a1, .inr (1, [.long 0, .int 1000, .int (-1), .int (-1), .int 0, .ref a13, .ref a14, .ref a15, .ref a16, .ref a17, .ref a18, .long 0, .ref a19])), (a17, .inr (6, [.int 8, .int 5, .ref a20, .int 0])), (a20, .inl (G.2 0, 40, .inl (fun _ => 0)))] sz)) 0 0 (va_A [(a0, .inr (11, [.ref a1, .ref a2, .ref a3, .ref a4, .ref a5, .ref a6, .ref a7, .ref a8, .ref a9, .ref a10, .int 0, .int 0, .int (-1), .ref a11, .int 0, .ref a12, .int 0])), (a12, .inl (G.2 0, 5, .inl (fun _ => 0))), (a1, .inr (1, [.long 0, .int 1000, .int (-1), .int (-1), .int 0, .ref a13, .ref a14, .ref a15, .ref a16, .ref a17, .ref a18, .long 0, .ref a19])), (a17, .inr (6, [.int 8, .int 5, .ref a20, .int 0])), (a20, .inl (G.2 0, 40, .inl (fun _ => 0)))] sz) := by
  refine g5_wkI (kX11_spot l G a0 a1 a2 a3 a4 a5 a6 a7 a8 a9 a10 a11 a12 a13 a14 a15 a16 a17 a18 a19 a20 sz n0 n1 n2) (fun r u h => ?_)
  rcases h with ⟨i0, hr, hu⟩ | ⟨i1, i2, hr, hu⟩ | ⟨i3, i4, i5, hr, hu⟩ | ⟨i6, i7, i8, i9, hr, hu⟩ | ⟨i10, i11, i12, i13, i14, hr, hu⟩ | ⟨i15, i16, i17, i18, i19, i20, hr, hu⟩ | ⟨i21, i22, i23, i24, i25, i26, hr, hu⟩
  · refine ⟨?_, hu⟩
    rw [hr]
    rw [show ((-1) : Int32).toInt = (-1) from by decide]
    unfold sp_spot; omega
  · refine ⟨?_, hu⟩
    rw [hr]
    rw [show ((-1) : Int32).toInt = (-1) from by decide]
    unfold sp_spot; omega
  · refine ⟨?_, hu⟩
    rw [hr]
    rw [show ((-1) : Int32).toInt = (-1) from by decide]
    unfold sp_spot; omega
  · refine ⟨?_, hu⟩
    rw [hr]
    rw [show ((-1) : Int32).toInt = (-1) from by decide]
    unfold sp_spot; omega
  · refine ⟨?_, hu⟩
    rw [hr]
    rw [show ((-1) : Int32).toInt = (-1) from by decide]
    unfold sp_spot; omega
  · refine ⟨?_, hu⟩
    rw [hr]
    rw [show ((-1) : Int32).toInt = (-1) from by decide]
    unfold sp_spot; omega
  · refine ⟨?_, hu⟩
    rw [hr]
    rw [show (0 : Int32).toInt = 0 from by decide]
    unfold sp_spot; omega
set_option maxHeartbeats 4000000 in
set_option maxRecDepth 100000 in
theorem sX_wish (l : Launch) (G : g5_G) (a0 a1 a2 a3 a4 a5 a6 a7 a8 a9 a10 a11 a12 a13 a14 a15 a16 a17 a18 a19 a20 : Nat) (sz : Nat) (n0 : Int32) (n1 : Int32) (n2 : Int32) (n3 : Int32) (n4 : Int32) (n5 : Int32) : Met l yX11_wish (wsG yX11_wish cX11_wish 8 (some .int)) ({ frames := 3, cells := 0, slots := 0, locals := 68 }) (va_Pc [.ref a0, .int n0, .int n1, .int n2, .int n3, .int n4, .int n5] (g5_P G [(a0, .inr (11, [.ref a1, .ref a2, .ref a3, .ref a4, .ref a5, .ref a6, .ref a7, .ref a8, .ref a9, .ref a10, .int 0, .int 0, .int (-1), .ref a11, .int 0, .ref a12, .int 0])), (a12, .inl (G.2 0, 5, .inl (fun _ => 0))), (a1, .inr (1, [.long 0, .int 1000, .int (-1), .int (-1), .int 0, .ref a13, .ref a14, .ref a15, .ref a16, .ref a17, .ref a18, .long 0, .ref a19])), (a18, .inr (6, [.int 6, .int 6, .ref a20, .int 0])), (a20, .inl (G.2 0, 36, .inl (fun _ => 0)))] sz)) (va_Qi (fun (r : Int32) (u : va_W) => r.toInt = sp_wish n0.toInt n1.toInt n2.toInt n3.toInt n4.toInt n5.toInt ∧ u = []) (g5_B G (va_A [(a0, .inr (11, [.ref a1, .ref a2, .ref a3, .ref a4, .ref a5, .ref a6, .ref a7, .ref a8, .ref a9, .ref a10, .int 0, .int 0, .int (-1), .ref a11, .int 0, .ref a12, .int 0])), (a12, .inl (G.2 0, 5, .inl (fun _ => 0))), (a1, .inr (1, [.long 0, .int 1000, .int (-1), .int (-1), .int 0, .ref a13, .ref a14, .ref a15, .ref a16, .ref a17, .ref a18, .long 0, .ref a19])), (a18, .inr (6, [.int 6, .int 6, .ref a20, .int 0])), (a20, .inl (G.2 0, 36, .inl (fun _ => 0)))] sz)) (va_A [(a0, .inr (11, [.ref a1, .ref a2, .ref a3, .ref a4, .ref a5, .ref a6, .ref a7, .ref a8, .ref a9, .ref a10, .int 0, .int 0, .int (-1), .ref a11, .int 0, .ref a12, .int 0])), (a12, .inl (G.2 0, 5, .inl (fun _ => 0))), (a1, .inr (1, [.long 0, .int 1000, .int (-1), .int (-1), .int 0, .ref a13, .ref a14, .ref a15, .ref a16, .ref a17, .ref a18, .long 0, .ref a19])), (a18, .inr (6, [.int 6, .int 6, .ref a20, .int 0])), (a20, .inl (G.2 0, 36, .inl (fun _ => 0)))] sz)) 0 0 (va_A [(a0, .inr (11, [.ref a1, .ref a2, .ref a3, .ref a4, .ref a5, .ref a6, .ref a7, .ref a8, .ref a9, .ref a10, .int 0, .int 0, .int (-1), .ref a11, .int 0, .ref a12, .int 0])), (a12, .inl (G.2 0, 5, .inl (fun _ => 0))), (a1, .inr (1, [.long 0, .int 1000, .int (-1), .int (-1), .int 0, .ref a13, .ref a14, .ref a15, .ref a16, .ref a17, .ref a18, .long 0, .ref a19])), (a18, .inr (6, [.int 6, .int 6, .ref a20, .int 0])), (a20, .inl (G.2 0, 36, .inl (fun _ => 0)))] sz) := by
  refine g5_wkI (kX11_wish l G a0 a1 a2 a3 a4 a5 a6 a7 a8 a9 a10 a11 a12 a13 a14 a15 a16 a17 a18 a19 a20 sz n0 n1 n2 n3 n4 n5) (fun r u h => ?_)
  rcases h with ⟨i0, hr, hu⟩ | ⟨i1, i2, hr, hu⟩ | ⟨i3, i4, i5, hr, hu⟩ | ⟨i6, i7, i8, i9, hr, hu⟩ | ⟨i10, i11, i12, i13, i14, hr, hu⟩ | ⟨i15, i16, i17, i18, i19, i20, hr, hu⟩ | ⟨i21, i22, i23, i24, i25, i26, i27, hr, hu⟩ | ⟨i28, i29, i30, i31, i32, i33, i34, i35, hr, hu⟩ | ⟨i36, i37, i38, i39, i40, i41, i42, i43, i44, hr, hu⟩ | ⟨i45, i46, i47, i48, i49, i50, i51, i52, i53, i54, hr, hu⟩ | ⟨i55, i56, i57, i58, i59, i60, i61, i62, i63, i64, i65, hr, hu⟩ | ⟨i66, i67, i68, i69, i70, i71, i72, i73, i74, i75, i76, i77, hr, hu⟩ | ⟨i78, i79, i80, i81, i82, i83, i84, i85, i86, i87, i88, i89, hr, hu⟩
  · refine ⟨?_, hu⟩
    rw [hr]
    rw [show ((-1) : Int32).toInt = (-1) from by decide]
    unfold sp_wish; omega
  · refine ⟨?_, hu⟩
    rw [hr]
    rw [show ((-1) : Int32).toInt = (-1) from by decide]
    unfold sp_wish; omega
  · refine ⟨?_, hu⟩
    rw [hr]
    rw [show ((-1) : Int32).toInt = (-1) from by decide]
    unfold sp_wish; omega
  · refine ⟨?_, hu⟩
    rw [hr]
    rw [show ((-1) : Int32).toInt = (-1) from by decide]
    unfold sp_wish; omega
  · refine ⟨?_, hu⟩
    rw [hr]
    rw [show ((-1) : Int32).toInt = (-1) from by decide]
    unfold sp_wish; omega
  · refine ⟨?_, hu⟩
    rw [hr]
    rw [show ((-1) : Int32).toInt = (-1) from by decide]
    unfold sp_wish; omega
  · refine ⟨?_, hu⟩
    rw [hr]
    rw [show ((-1) : Int32).toInt = (-1) from by decide]
    unfold sp_wish; omega
  · refine ⟨?_, hu⟩
    rw [hr]
    rw [show ((-1) : Int32).toInt = (-1) from by decide]
    unfold sp_wish; omega
  · refine ⟨?_, hu⟩
    rw [hr]
    rw [show ((-1) : Int32).toInt = (-1) from by decide]
    unfold sp_wish; omega
  · refine ⟨?_, hu⟩
    rw [hr]
    rw [show ((-1) : Int32).toInt = (-1) from by decide]
    unfold sp_wish; omega
  · refine ⟨?_, hu⟩
    rw [hr]
    rw [show (1 : Int32).toInt = 1 from by decide]
    unfold sp_wish; omega
  · refine ⟨?_, hu⟩
    rw [hr]
    rw [show ((-1) : Int32).toInt = (-1) from by decide]
    unfold sp_wish; omega
  · refine ⟨?_, hu⟩
    rw [hr]
    rw [show (1 : Int32).toInt = 1 from by decide]
    unfold sp_wish; omega
set_option maxHeartbeats 4000000 in
set_option maxRecDepth 100000 in
theorem sX_lacks (l : Launch) (G : g5_G) (a0 a1 a2 a3 a4 a5 a6 a7 a8 a9 a10 a11 a12 a13 a14 a15 a16 a17 a18 a19 a20 a21 : Nat) (sz : Nat) (n0 : Int32) : Met l yX11_lacks (wsG yX11_lacks cX11_lacks 2 (some .int)) ({ frames := 1, cells := 0, slots := 0, locals := 25 }) (va_Pc [.ref a0, .int n0] (g5_P G [(a0, .inr (11, [.ref a1, .ref a2, .ref a3, .ref a4, .ref a5, .ref a6, .ref a7, .ref a8, .ref a9, .ref a10, .int 0, .int 0, .int (-1), .ref a11, .int 0, .ref a12, .int 0])), (a1, .inr (1, [.long 0, .int 1000, .int (-1), .int (-1), .int 0, .ref a13, .ref a14, .ref a15, .ref a16, .ref a17, .ref a18, .long 0, .ref a19])), (a17, .inr (6, [.int 8, .int 5, .ref a20, .int 0])), (a7, .inr (0, [.ref a1, .ref a4, .int 0, .int 0, .int 0])), (a18, .inr (6, [.int 6, .int 6, .ref a21, .int 0]))] sz)) (va_Qi (fun (r : Int32) (u : va_W) => r.toInt = sp_lacks n0.toInt ∧ u = []) (g5_B G (va_A [(a0, .inr (11, [.ref a1, .ref a2, .ref a3, .ref a4, .ref a5, .ref a6, .ref a7, .ref a8, .ref a9, .ref a10, .int 0, .int 0, .int (-1), .ref a11, .int 0, .ref a12, .int 0])), (a1, .inr (1, [.long 0, .int 1000, .int (-1), .int (-1), .int 0, .ref a13, .ref a14, .ref a15, .ref a16, .ref a17, .ref a18, .long 0, .ref a19])), (a17, .inr (6, [.int 8, .int 5, .ref a20, .int 0])), (a7, .inr (0, [.ref a1, .ref a4, .int 0, .int 0, .int 0])), (a18, .inr (6, [.int 6, .int 6, .ref a21, .int 0]))] sz)) (va_A [(a0, .inr (11, [.ref a1, .ref a2, .ref a3, .ref a4, .ref a5, .ref a6, .ref a7, .ref a8, .ref a9, .ref a10, .int 0, .int 0, .int (-1), .ref a11, .int 0, .ref a12, .int 0])), (a1, .inr (1, [.long 0, .int 1000, .int (-1), .int (-1), .int 0, .ref a13, .ref a14, .ref a15, .ref a16, .ref a17, .ref a18, .long 0, .ref a19])), (a17, .inr (6, [.int 8, .int 5, .ref a20, .int 0])), (a7, .inr (0, [.ref a1, .ref a4, .int 0, .int 0, .int 0])), (a18, .inr (6, [.int 6, .int 6, .ref a21, .int 0]))] sz)) 0 0 (va_A [(a0, .inr (11, [.ref a1, .ref a2, .ref a3, .ref a4, .ref a5, .ref a6, .ref a7, .ref a8, .ref a9, .ref a10, .int 0, .int 0, .int (-1), .ref a11, .int 0, .ref a12, .int 0])), (a1, .inr (1, [.long 0, .int 1000, .int (-1), .int (-1), .int 0, .ref a13, .ref a14, .ref a15, .ref a16, .ref a17, .ref a18, .long 0, .ref a19])), (a17, .inr (6, [.int 8, .int 5, .ref a20, .int 0])), (a7, .inr (0, [.ref a1, .ref a4, .int 0, .int 0, .int 0])), (a18, .inr (6, [.int 6, .int 6, .ref a21, .int 0]))] sz) := by
  refine g5_wkI (kX11_lacks l G a0 a1 a2 a3 a4 a5 a6 a7 a8 a9 a10 a11 a12 a13 a14 a15 a16 a17 a18 a19 a20 a21 sz n0) (fun r u h => ?_)
  rcases h with ⟨i0, hr, hu⟩ | ⟨i1, i2, hr, hu⟩ | ⟨i3, i4, hr, hu⟩
  · refine ⟨?_, hu⟩
    rw [hr]
    rw [show ((-1) : Int32).toInt = (-1) from by decide]
    unfold sp_lacks; omega
  · refine ⟨?_, hu⟩
    rw [hr]
    rw [show (0 : Int32).toInt = 0 from by decide]
    unfold sp_lacks; omega
  · refine ⟨?_, hu⟩
    rw [hr]
    rw [show ((-1) : Int32).toInt = (-1) from by decide]
    unfold sp_lacks; omega
set_option maxHeartbeats 4000000 in
set_option maxRecDepth 100000 in
theorem sX_hang (l : Launch) (G : g5_G) (a0 a1 a2 a3 a4 a5 a6 a7 a8 a9 a10 a11 a12 a13 a14 a15 a16 a17 a18 a19 a20 a21 : Nat) (sz : Nat) (n0 : Int32) : Met l yX11_hang (wsG yX11_hang cX11_hang 2 (some .int)) ({ frames := 2, cells := 0, slots := 0, locals := 48 }) (va_Pc [.ref a0, .int n0] (g5_P G [(a0, .inr (11, [.ref a1, .ref a2, .ref a3, .ref a4, .ref a5, .ref a6, .ref a7, .ref a8, .ref a9, .ref a10, .int 0, .int 0, .int (-1), .ref a11, .int 0, .ref a12, .int 0])), (a7, .inr (0, [.ref a1, .ref a4, .int 0, .int 0, .int 0])), (a1, .inr (1, [.long 0, .int 1000, .int (-1), .int (-1), .int 0, .ref a13, .ref a14, .ref a15, .ref a16, .ref a17, .ref a18, .long 0, .ref a19])), (a17, .inr (6, [.int 8, .int 5, .ref a20, .int 0])), (a18, .inr (6, [.int 6, .int 6, .ref a21, .int 0]))] sz)) (va_Qi (fun (r : Int32) (u : va_W) => r.toInt = sp_hang n0.toInt ∧ u = []) (g5_B G (va_A [(a0, .inr (11, [.ref a1, .ref a2, .ref a3, .ref a4, .ref a5, .ref a6, .ref a7, .ref a8, .ref a9, .ref a10, .int 0, .int 0, .int (-1), .ref a11, .int 0, .ref a12, .int 0])), (a7, .inr (0, [.ref a1, .ref a4, .int 0, .int 0, .int 0])), (a1, .inr (1, [.long 0, .int 1000, .int (-1), .int (-1), .int 0, .ref a13, .ref a14, .ref a15, .ref a16, .ref a17, .ref a18, .long 0, .ref a19])), (a17, .inr (6, [.int 8, .int 5, .ref a20, .int 0])), (a18, .inr (6, [.int 6, .int 6, .ref a21, .int 0]))] sz)) (va_A [(a0, .inr (11, [.ref a1, .ref a2, .ref a3, .ref a4, .ref a5, .ref a6, .ref a7, .ref a8, .ref a9, .ref a10, .int 0, .int 0, .int (-1), .ref a11, .int 0, .ref a12, .int 0])), (a7, .inr (0, [.ref a1, .ref a4, .int 0, .int 0, .int 0])), (a1, .inr (1, [.long 0, .int 1000, .int (-1), .int (-1), .int 0, .ref a13, .ref a14, .ref a15, .ref a16, .ref a17, .ref a18, .long 0, .ref a19])), (a17, .inr (6, [.int 8, .int 5, .ref a20, .int 0])), (a18, .inr (6, [.int 6, .int 6, .ref a21, .int 0]))] sz)) 0 0 (va_A [(a0, .inr (11, [.ref a1, .ref a2, .ref a3, .ref a4, .ref a5, .ref a6, .ref a7, .ref a8, .ref a9, .ref a10, .int 0, .int 0, .int (-1), .ref a11, .int 0, .ref a12, .int 0])), (a7, .inr (0, [.ref a1, .ref a4, .int 0, .int 0, .int 0])), (a1, .inr (1, [.long 0, .int 1000, .int (-1), .int (-1), .int 0, .ref a13, .ref a14, .ref a15, .ref a16, .ref a17, .ref a18, .long 0, .ref a19])), (a17, .inr (6, [.int 8, .int 5, .ref a20, .int 0])), (a18, .inr (6, [.int 6, .int 6, .ref a21, .int 0]))] sz) := by
  refine g5_wkI (kX11_hang l G a0 a1 a2 a3 a4 a5 a6 a7 a8 a9 a10 a11 a12 a13 a14 a15 a16 a17 a18 a19 a20 a21 sz n0) (fun r u h => ?_)
  rcases h with ⟨i0, hr, hu⟩ | ⟨i1, i2, i3, i4, hr, hu⟩ | ⟨i5, i6, i7, i8, hr, hu⟩ | ⟨i9, i10, i11, hr, hu⟩ | ⟨i12, i13, hr, hu⟩
  · refine ⟨?_, hu⟩
    rw [hr]
    rw [show ((-1) : Int32).toInt = (-1) from by decide]
    unfold sp_hang; omega
  · refine ⟨?_, hu⟩
    rw [hr]
    rw [show (0 : Int32).toInt = 0 from by decide]
    unfold sp_hang; omega
  · refine ⟨?_, hu⟩
    rw [hr]
    rw [show (1 : Int32).toInt = 1 from by decide]
    unfold sp_hang; omega
  · refine ⟨?_, hu⟩
    rw [hr]
    rw [show (0 : Int32).toInt = 0 from by decide]
    unfold sp_hang; omega
  · refine ⟨?_, hu⟩
    rw [hr]
    rw [show ((-1) : Int32).toInt = (-1) from by decide]
    unfold sp_hang; omega
set_option maxHeartbeats 4000000 in
set_option maxRecDepth 100000 in
theorem sX_soonest (l : Launch) (G : g5_G) (a0 a1 a2 a3 a4 a5 a6 a7 a8 a9 a10 a11 a12 a13 a14 a15 a16 a17 a18 a19 a20 : Nat) (sz : Nat) (n0 : Int32) (n1 : Int32) (n2 : Int32) : Met l yX11_soonest (wsG yX11_soonest cX11_soonest 4 (some .int)) ({ frames := 2, cells := 0, slots := 0, locals := 44 }) (va_Pc [.ref a0, .int n0, .int n1, .int n2] (g5_P G [(a0, .inr (11, [.ref a1, .ref a2, .ref a3, .ref a4, .ref a5, .ref a6, .ref a7, .ref a8, .ref a9, .ref a10, .int 0, .int 0, .int (-1), .ref a11, .int 0, .ref a12, .int 0])), (a1, .inr (1, [.long 0, .int 1000, .int (-1), .int (-1), .int 0, .ref a13, .ref a14, .ref a15, .ref a16, .ref a17, .ref a18, .long 0, .ref a19])), (a15, .inr (6, [.int 5, .int 24, .ref a20, .int 0]))] sz)) (va_Qi (fun (r : Int32) (u : va_W) => r.toInt = sp_soonest n0.toInt n1.toInt n2.toInt ∧ u = []) (g5_B G (va_A [(a0, .inr (11, [.ref a1, .ref a2, .ref a3, .ref a4, .ref a5, .ref a6, .ref a7, .ref a8, .ref a9, .ref a10, .int 0, .int 0, .int (-1), .ref a11, .int 0, .ref a12, .int 0])), (a1, .inr (1, [.long 0, .int 1000, .int (-1), .int (-1), .int 0, .ref a13, .ref a14, .ref a15, .ref a16, .ref a17, .ref a18, .long 0, .ref a19])), (a15, .inr (6, [.int 5, .int 24, .ref a20, .int 0]))] sz)) (va_A [(a0, .inr (11, [.ref a1, .ref a2, .ref a3, .ref a4, .ref a5, .ref a6, .ref a7, .ref a8, .ref a9, .ref a10, .int 0, .int 0, .int (-1), .ref a11, .int 0, .ref a12, .int 0])), (a1, .inr (1, [.long 0, .int 1000, .int (-1), .int (-1), .int 0, .ref a13, .ref a14, .ref a15, .ref a16, .ref a17, .ref a18, .long 0, .ref a19])), (a15, .inr (6, [.int 5, .int 24, .ref a20, .int 0]))] sz)) 0 0 (va_A [(a0, .inr (11, [.ref a1, .ref a2, .ref a3, .ref a4, .ref a5, .ref a6, .ref a7, .ref a8, .ref a9, .ref a10, .int 0, .int 0, .int (-1), .ref a11, .int 0, .ref a12, .int 0])), (a1, .inr (1, [.long 0, .int 1000, .int (-1), .int (-1), .int 0, .ref a13, .ref a14, .ref a15, .ref a16, .ref a17, .ref a18, .long 0, .ref a19])), (a15, .inr (6, [.int 5, .int 24, .ref a20, .int 0]))] sz) := by
  refine g5_wkI (kX11_soonest l G a0 a1 a2 a3 a4 a5 a6 a7 a8 a9 a10 a11 a12 a13 a14 a15 a16 a17 a18 a19 a20 sz n0 n1 n2) (fun r u h => ?_)
  rcases h with ⟨i0, hr, hu⟩ | ⟨i1, i2, hr, hu⟩
  · refine ⟨?_, hu⟩
    rw [hr]
    rw [show ((-1) : Int32).toInt = (-1) from by decide]
    unfold sp_soonest; omega
  · refine ⟨?_, hu⟩
    rw [hr]
    rw [show ((-1) : Int32).toInt = (-1) from by decide]
    unfold sp_soonest; omega
set_option maxHeartbeats 4000000 in
set_option maxRecDepth 100000 in
theorem sX_way (l : Launch) (G : g5_G) (a0 a1 a2 a3 a4 a5 a6 a7 a8 a9 a10 a11 a12 a13 a14 a15 a16 a17 a18 a19 a20 : Nat) (sz : Nat) (n0 : Int32) (n1 : Int32) (n2 : Int32) (n3 : Int32) : Met l yX11_way (wsG yX11_way cX11_way 6 (some .int)) ({ frames := 2, cells := 0, slots := 0, locals := 44 }) (va_Pc [.ref a0, .int n0, .int n1, .int n2, .int n3] (g5_P G [(a0, .inr (11, [.ref a1, .ref a2, .ref a3, .ref a4, .ref a5, .ref a6, .ref a7, .ref a8, .ref a9, .ref a10, .int 0, .int 0, .int (-1), .ref a11, .int 0, .ref a12, .int 0])), (a1, .inr (1, [.long 0, .int 1000, .int (-1), .int (-1), .int 0, .ref a13, .ref a14, .ref a15, .ref a16, .ref a17, .ref a18, .long 0, .ref a19])), (a15, .inr (6, [.int 5, .int 24, .ref a20, .int 0]))] sz)) (va_Qi (fun (r : Int32) (u : va_W) => r.toInt = sp_way n0.toInt n1.toInt n2.toInt n3.toInt ∧ u = []) (g5_B G (va_A [(a0, .inr (11, [.ref a1, .ref a2, .ref a3, .ref a4, .ref a5, .ref a6, .ref a7, .ref a8, .ref a9, .ref a10, .int 0, .int 0, .int (-1), .ref a11, .int 0, .ref a12, .int 0])), (a1, .inr (1, [.long 0, .int 1000, .int (-1), .int (-1), .int 0, .ref a13, .ref a14, .ref a15, .ref a16, .ref a17, .ref a18, .long 0, .ref a19])), (a15, .inr (6, [.int 5, .int 24, .ref a20, .int 0]))] sz)) (va_A [(a0, .inr (11, [.ref a1, .ref a2, .ref a3, .ref a4, .ref a5, .ref a6, .ref a7, .ref a8, .ref a9, .ref a10, .int 0, .int 0, .int (-1), .ref a11, .int 0, .ref a12, .int 0])), (a1, .inr (1, [.long 0, .int 1000, .int (-1), .int (-1), .int 0, .ref a13, .ref a14, .ref a15, .ref a16, .ref a17, .ref a18, .long 0, .ref a19])), (a15, .inr (6, [.int 5, .int 24, .ref a20, .int 0]))] sz)) 0 0 (va_A [(a0, .inr (11, [.ref a1, .ref a2, .ref a3, .ref a4, .ref a5, .ref a6, .ref a7, .ref a8, .ref a9, .ref a10, .int 0, .int 0, .int (-1), .ref a11, .int 0, .ref a12, .int 0])), (a1, .inr (1, [.long 0, .int 1000, .int (-1), .int (-1), .int 0, .ref a13, .ref a14, .ref a15, .ref a16, .ref a17, .ref a18, .long 0, .ref a19])), (a15, .inr (6, [.int 5, .int 24, .ref a20, .int 0]))] sz) := by
  refine g5_wkI (kX11_way l G a0 a1 a2 a3 a4 a5 a6 a7 a8 a9 a10 a11 a12 a13 a14 a15 a16 a17 a18 a19 a20 sz n0 n1 n2 n3) (fun r u h => ?_)
  rcases h with ⟨i0, hr, hu⟩ | ⟨i1, i2, hr, hu⟩
  · refine ⟨?_, hu⟩
    rw [hr]
    rw [show ((-1) : Int32).toInt = (-1) from by decide]
    unfold sp_way; omega
  · refine ⟨?_, hu⟩
    rw [hr]
    rw [show ((-1) : Int32).toInt = (-1) from by decide]
    unfold sp_way; omega
set_option maxHeartbeats 4000000 in
set_option maxRecDepth 100000 in
theorem sX_sooner (l : Launch) (G : g5_G) (a0 a1 a2 a3 a4 a5 a6 a7 a8 a9 a10 a11 a12 a13 a14 a15 a16 a17 a18 a19 a20 : Nat) (sz : Nat) (n0 : Int32) (n1 : Int32) (n2 : Int32) (n3 : Int32) : Met l yX11_sooner (wsG yX11_sooner cX11_sooner 12 (some .int)) ({ frames := 2, cells := 0, slots := 0, locals := 44 }) (va_Pc [.ref a0, .int n0, .int n1, .int n2, .int n3] (g5_P G [(a0, .inr (11, [.ref a1, .ref a2, .ref a3, .ref a4, .ref a5, .ref a6, .ref a7, .ref a8, .ref a9, .ref a10, .int 0, .int 0, .int (-1), .ref a11, .int 0, .ref a12, .int 0])), (a1, .inr (1, [.long 0, .int 1000, .int (-1), .int (-1), .int 0, .ref a13, .ref a14, .ref a15, .ref a16, .ref a17, .ref a18, .long 0, .ref a19])), (a15, .inr (6, [.int 5, .int 24, .ref a20, .int 0]))] sz)) (va_Qi (fun (r : Int32) (u : va_W) => r.toInt = sp_sooner n0.toInt n1.toInt n2.toInt n3.toInt ∧ u = []) (g5_B G (va_A [(a0, .inr (11, [.ref a1, .ref a2, .ref a3, .ref a4, .ref a5, .ref a6, .ref a7, .ref a8, .ref a9, .ref a10, .int 0, .int 0, .int (-1), .ref a11, .int 0, .ref a12, .int 0])), (a1, .inr (1, [.long 0, .int 1000, .int (-1), .int (-1), .int 0, .ref a13, .ref a14, .ref a15, .ref a16, .ref a17, .ref a18, .long 0, .ref a19])), (a15, .inr (6, [.int 5, .int 24, .ref a20, .int 0]))] sz)) (va_A [(a0, .inr (11, [.ref a1, .ref a2, .ref a3, .ref a4, .ref a5, .ref a6, .ref a7, .ref a8, .ref a9, .ref a10, .int 0, .int 0, .int (-1), .ref a11, .int 0, .ref a12, .int 0])), (a1, .inr (1, [.long 0, .int 1000, .int (-1), .int (-1), .int 0, .ref a13, .ref a14, .ref a15, .ref a16, .ref a17, .ref a18, .long 0, .ref a19])), (a15, .inr (6, [.int 5, .int 24, .ref a20, .int 0]))] sz)) 0 0 (va_A [(a0, .inr (11, [.ref a1, .ref a2, .ref a3, .ref a4, .ref a5, .ref a6, .ref a7, .ref a8, .ref a9, .ref a10, .int 0, .int 0, .int (-1), .ref a11, .int 0, .ref a12, .int 0])), (a1, .inr (1, [.long 0, .int 1000, .int (-1), .int (-1), .int 0, .ref a13, .ref a14, .ref a15, .ref a16, .ref a17, .ref a18, .long 0, .ref a19])), (a15, .inr (6, [.int 5, .int 24, .ref a20, .int 0]))] sz) := by
  refine g5_wkI (kX11_sooner l G a0 a1 a2 a3 a4 a5 a6 a7 a8 a9 a10 a11 a12 a13 a14 a15 a16 a17 a18 a19 a20 sz n0 n1 n2 n3) (fun r u h => ?_)
  rcases h with ⟨i0, hr, hu⟩ | ⟨i1, i2, hr, hu⟩
  · refine ⟨?_, hu⟩
    rw [hr]
    rw [show ((-1) : Int32).toInt = (-1) from by decide]
    unfold sp_sooner; omega
  · refine ⟨?_, hu⟩
    rw [hr]
    rw [show ((-1) : Int32).toInt = (-1) from by decide]
    unfold sp_sooner; omega
set_option maxHeartbeats 4000000 in
set_option maxRecDepth 100000 in
theorem sX_wander (l : Launch) (G : g5_G) (a_x a_1 a_71 a_47 a_48 a_70 a_5 a_14 a_41 a_42 a_49 a_57 a_58 a_61 a_69 a_2 a_3 a_7 a_9 a_11 a_13 a_6 : Nat) (sz : Nat) (p_s : Int32) (p_c : Int32) : Met l yX11_wander (wsG yX11_wander cX11_wander 9 (some .int)) ({ frames := 2, cells := 0, slots := 0, locals := 48 }) (va_Pc [.ref a_x, .int p_s, .int p_c] (g5_P G [(a_x, .inr (11, [.ref a_1, .ref a_14, .ref a_41, .ref a_42, .ref a_47, .ref a_49, .ref a_57, .ref a_58, .ref a_61, .ref a_69, .int 0, .int 0, .int (-1), .ref a_70, .int 0, .ref a_71, .int 0])), (a_1, .inr (1, [.long 0, .int 1000, .int (-1), .int (-1), .int 0, .ref a_2, .ref a_3, .ref a_5, .ref a_7, .ref a_9, .ref a_11, .long 0, .ref a_13])), (a_71, .inl (G.2 0, 5, .inl (fun _ => 0))), (a_47, .inr (10, [.ref a_1, .ref a_42, .ref a_48])), (a_48, .inl (G.2 1, 24, .inr (.inl (fun _ => 0)))), (a_70, .inl (G.2 0, 24, .inl (fun _ => 0))), (a_5, .inr (6, [.int 5, .int 24, .ref a_6, .int 0]))] sz)) (va_Qi (fun (r : Int32) (u : va_W) => r.toInt = sp_wander p_s.toInt p_c.toInt ∧ u = []) (g5_B G (va_A [(a_x, .inr (11, [.ref a_1, .ref a_14, .ref a_41, .ref a_42, .ref a_47, .ref a_49, .ref a_57, .ref a_58, .ref a_61, .ref a_69, .int 0, .int 0, .int (-1), .ref a_70, .int 0, .ref a_71, .int 0])), (a_1, .inr (1, [.long 0, .int 1000, .int (-1), .int (-1), .int 0, .ref a_2, .ref a_3, .ref a_5, .ref a_7, .ref a_9, .ref a_11, .long 0, .ref a_13])), (a_71, .inl (G.2 0, 5, .inl (fun _ => 0))), (a_47, .inr (10, [.ref a_1, .ref a_42, .ref a_48])), (a_48, .inl (G.2 1, 24, .inr (.inl (fun _ => 0)))), (a_70, .inl (G.2 0, 24, .inl (fun _ => 0))), (a_5, .inr (6, [.int 5, .int 24, .ref a_6, .int 0]))] sz)) (va_A [(a_x, .inr (11, [.ref a_1, .ref a_14, .ref a_41, .ref a_42, .ref a_47, .ref a_49, .ref a_57, .ref a_58, .ref a_61, .ref a_69, .int 0, .int 0, .int (-1), .ref a_70, .int 0, .ref a_71, .int 0])), (a_1, .inr (1, [.long 0, .int 1000, .int (-1), .int (-1), .int 0, .ref a_2, .ref a_3, .ref a_5, .ref a_7, .ref a_9, .ref a_11, .long 0, .ref a_13])), (a_71, .inl (G.2 0, 5, .inl (fun _ => 0))), (a_47, .inr (10, [.ref a_1, .ref a_42, .ref a_48])), (a_48, .inl (G.2 1, 24, .inr (.inl (fun _ => 0)))), (a_70, .inl (G.2 0, 24, .inl (fun _ => 0))), (a_5, .inr (6, [.int 5, .int 24, .ref a_6, .int 0]))] sz)) 0 0 (va_A [(a_x, .inr (11, [.ref a_1, .ref a_14, .ref a_41, .ref a_42, .ref a_47, .ref a_49, .ref a_57, .ref a_58, .ref a_61, .ref a_69, .int 0, .int 0, .int (-1), .ref a_70, .int 0, .ref a_71, .int 0])), (a_1, .inr (1, [.long 0, .int 1000, .int (-1), .int (-1), .int 0, .ref a_2, .ref a_3, .ref a_5, .ref a_7, .ref a_9, .ref a_11, .long 0, .ref a_13])), (a_71, .inl (G.2 0, 5, .inl (fun _ => 0))), (a_47, .inr (10, [.ref a_1, .ref a_42, .ref a_48])), (a_48, .inl (G.2 1, 24, .inr (.inl (fun _ => 0)))), (a_70, .inl (G.2 0, 24, .inl (fun _ => 0))), (a_5, .inr (6, [.int 5, .int 24, .ref a_6, .int 0]))] sz) := by
  refine g5_wkI (k_wander l G a_x a_1 a_71 a_47 a_48 a_70 a_5 a_14 a_41 a_42 a_49 a_57 a_58 a_61 a_69 a_2 a_3 a_7 a_9 a_11 a_13 a_6 sz p_s p_c) (fun r u h => ?_)
  rcases h with ⟨i0, hr, hu⟩ | ⟨i1, hr, hu⟩
  · refine ⟨?_, hu⟩
    rw [hr]
    rw [show ((-1) : Int32).toInt = (-1) from by decide]
    unfold sp_wander; omega
  · refine ⟨?_, hu⟩
    rw [hr]
    rw [show (0 : Int32).toInt = 0 from by decide]
    unfold sp_wander; omega
set_option maxHeartbeats 4000000 in
set_option maxRecDepth 100000 in
theorem sX_drawn (l : Launch) (G : g5_G) (a0 a1 a2 a3 a4 a5 a6 a7 a8 a9 a10 a11 a12 : Nat) (sz : Nat) (n0 : Int32) : Met l yX11_drawn (wsG yX11_drawn cX11_drawn 2 (some .int)) ({ frames := 0, cells := 0, slots := 0, locals := 0 }) (va_Pc [.ref a0, .int n0] (g5_P G [(a0, .inr (11, [.ref a1, .ref a2, .ref a3, .ref a4, .ref a5, .ref a6, .ref a7, .ref a8, .ref a9, .ref a10, .int 0, .int 0, .int (-1), .ref a11, .int 0, .ref a12, .int 0]))] sz)) (va_Qi (fun (r : Int32) (u : va_W) => r.toInt = sp_drawn n0.toInt ∧ u = []) (g5_B G (va_A [(a0, .inr (11, [.ref a1, .ref a2, .ref a3, .ref a4, .ref a5, .ref a6, .ref a7, .ref a8, .ref a9, .ref a10, .int 0, .int 0, .int (-1), .ref a11, .int 0, .ref a12, .int 0]))] sz)) (va_A [(a0, .inr (11, [.ref a1, .ref a2, .ref a3, .ref a4, .ref a5, .ref a6, .ref a7, .ref a8, .ref a9, .ref a10, .int 0, .int 0, .int (-1), .ref a11, .int 0, .ref a12, .int 0]))] sz)) 0 0 (va_A [(a0, .inr (11, [.ref a1, .ref a2, .ref a3, .ref a4, .ref a5, .ref a6, .ref a7, .ref a8, .ref a9, .ref a10, .int 0, .int 0, .int (-1), .ref a11, .int 0, .ref a12, .int 0]))] sz) := by
  refine g5_wkI (kX11_drawn l G a0 a1 a2 a3 a4 a5 a6 a7 a8 a9 a10 a11 a12 sz n0) (fun r u h => ?_)
  obtain ⟨hr, hu⟩ := h
  refine ⟨?_, hu⟩
  rw [hr]
  rw [show ((-1) : Int32).toInt = (-1) from by decide]
  unfold sp_drawn; omega
set_option maxHeartbeats 4000000 in
set_option maxRecDepth 100000 in
theorem sX_image (l : Launch) (G : g5_G) (a0 a1 a2 a3 a4 a5 a6 a7 a8 a9 a10 a11 a12 a13 a14 a15 a16 a17 a18 a19 a20 a21 a22 a23 a24 a25 a26 a27 a28 a29 a30 a31 a32 a33 a34 a35 a36 a37 a38 a39 a40 a41 a42 a43 a44 a45 a46 a47 a48 a49 a50 : Nat) (sz : Nat) (n0 : Int32) : Met l yX11_image (wsG yX11_image cX11_image 2 (some .int)) ({ frames := 3, cells := 0, slots := 0, locals := 103 }) (va_Pc [.ref a0, .int n0] (g5_P G [(a0, .inr (11, [.ref a1, .ref a2, .ref a3, .ref a4, .ref a5, .ref a6, .ref a7, .ref a8, .ref a9, .ref a10, .int 0, .int 0, .int (-1), .ref a11, .int 0, .ref a12, .int 0])), (a12, .inl (G.2 0, 5, .inl (fun _ => 0))), (a2, .inl (G.2 3, 2, .inr (.inr (.inr (.inr (va_up (va_up (fun _ => none) 0 (some a13)) 1 (some a14))))))), (a13, .inr (1, [.long 0, .int 1000, .int (-1), .int (-1), .int 0, .ref a15, .ref a16, .ref a17, .ref a18, .ref a19, .ref a20, .long 0, .ref a21])), (a1, .inr (1, [.long 0, .int 1000, .int (-1), .int (-1), .int 0, .ref a22, .ref a23, .ref a24, .ref a25, .ref a26, .ref a27, .long 0, .ref a28])), (a22, .inl (G.2 4, 6, .inr (.inr (.inr (.inr (fun _ => none)))))), (a15, .inl (G.2 4, 6, .inr (.inr (.inr (.inr (fun _ => none)))))), (a16, .inr (6, [.int 6, .int 5, .ref a29, .int 0])), (a23, .inr (6, [.int 6, .int 5, .ref a30, .int 0])), (a30, .inl (G.2 0, 30, .inl (fun _ => 0))), (a29, .inl (G.2 0, 30, .inl (fun _ => 0))), (a17, .inr (6, [.int 5, .int 24, .ref a31, .int 0])), (a24, .inr (6, [.int 5, .int 24, .ref a32, .int 0])), (a32, .inl (G.2 0, 120, .inl (fun _ => 0))), (a31, .inl (G.2 0, 120, .inl (fun _ => 0))), (a18, .inr (6, [.int 10, .int 4, .ref a33, .int 0])), (a25, .inr (6, [.int 10, .int 4, .ref a34, .int 0])), (a34, .inl (G.2 0, 40, .inl (fun _ => 0))), (a33, .inl (G.2 0, 40, .inl (fun _ => 0))), (a19, .inr (6, [.int 8, .int 5, .ref a35, .int 0])), (a26, .inr (6, [.int 8, .int 5, .ref a36, .int 0])), (a36, .inl (G.2 0, 40, .inl (fun _ => 0))), (a35, .inl (G.2 0, 40, .inl (fun _ => 0))), (a20, .inr (6, [.int 6, .int 6, .ref a37, .int 0])), (a27, .inr (6, [.int 6, .int 6, .ref a38, .int 0])), (a38, .inl (G.2 0, 36, .inl (fun _ => 0))), (a37, .inl (G.2 0, 36, .inl (fun _ => 0))), (a28, .inl (G.2 1, 24, .inr (.inl (fun _ => 0)))), (a21, .inl (G.2 1, 24, .inr (.inl (fun _ => 0)))), (a3, .inl (G.2 2, 2, .inl (fun _ => 0))), (a14, .inr (1, [.long 0, .int 1000, .int (-1), .int (-1), .int 0, .ref a39, .ref a40, .ref a41, .ref a42, .ref a43, .ref a44, .long 0, .ref a45])), (a39, .inl (G.2 4, 6, .inr (.inr (.inr (.inr (fun _ => none)))))), (a40, .inr (6, [.int 6, .int 5, .ref a46, .int 0])), (a46, .inl (G.2 0, 30, .inl (fun _ => 0))), (a41, .inr (6, [.int 5, .int 24, .ref a47, .int 0])), (a47, .inl (G.2 0, 120, .inl (fun _ => 0))), (a42, .inr (6, [.int 10, .int 4, .ref a48, .int 0])), (a48, .inl (G.2 0, 40, .inl (fun _ => 0))), (a43, .inr (6, [.int 8, .int 5, .ref a49, .int 0])), (a49, .inl (G.2 0, 40, .inl (fun _ => 0))), (a44, .inr (6, [.int 6, .int 6, .ref a50, .int 0])), (a50, .inl (G.2 0, 36, .inl (fun _ => 0))), (a45, .inl (G.2 1, 24, .inr (.inl (fun _ => 0))))] sz)) (va_Qi (fun (r : Int32) (u : va_W) => r.toInt = sp_image n0.toInt ∧ u = []) (g5_B G (va_A [(a0, .inr (11, [.ref a1, .ref a2, .ref a3, .ref a4, .ref a5, .ref a6, .ref a7, .ref a8, .ref a9, .ref a10, .int 0, .int 0, .int (-1), .ref a11, .int 0, .ref a12, .int 0])), (a12, .inl (G.2 0, 5, .inl (fun _ => 0))), (a2, .inl (G.2 3, 2, .inr (.inr (.inr (.inr (va_up (va_up (fun _ => none) 0 (some a13)) 1 (some a14))))))), (a13, .inr (1, [.long 0, .int 1000, .int (-1), .int (-1), .int 0, .ref a15, .ref a16, .ref a17, .ref a18, .ref a19, .ref a20, .long 0, .ref a21])), (a1, .inr (1, [.long 0, .int 1000, .int (-1), .int (-1), .int 0, .ref a22, .ref a23, .ref a24, .ref a25, .ref a26, .ref a27, .long 0, .ref a28])), (a22, .inl (G.2 4, 6, .inr (.inr (.inr (.inr (fun _ => none)))))), (a15, .inl (G.2 4, 6, .inr (.inr (.inr (.inr (fun _ => none)))))), (a16, .inr (6, [.int 6, .int 5, .ref a29, .int 0])), (a23, .inr (6, [.int 6, .int 5, .ref a30, .int 0])), (a30, .inl (G.2 0, 30, .inl (fun _ => 0))), (a29, .inl (G.2 0, 30, .inl (fun _ => 0))), (a17, .inr (6, [.int 5, .int 24, .ref a31, .int 0])), (a24, .inr (6, [.int 5, .int 24, .ref a32, .int 0])), (a32, .inl (G.2 0, 120, .inl (fun _ => 0))), (a31, .inl (G.2 0, 120, .inl (fun _ => 0))), (a18, .inr (6, [.int 10, .int 4, .ref a33, .int 0])), (a25, .inr (6, [.int 10, .int 4, .ref a34, .int 0])), (a34, .inl (G.2 0, 40, .inl (fun _ => 0))), (a33, .inl (G.2 0, 40, .inl (fun _ => 0))), (a19, .inr (6, [.int 8, .int 5, .ref a35, .int 0])), (a26, .inr (6, [.int 8, .int 5, .ref a36, .int 0])), (a36, .inl (G.2 0, 40, .inl (fun _ => 0))), (a35, .inl (G.2 0, 40, .inl (fun _ => 0))), (a20, .inr (6, [.int 6, .int 6, .ref a37, .int 0])), (a27, .inr (6, [.int 6, .int 6, .ref a38, .int 0])), (a38, .inl (G.2 0, 36, .inl (fun _ => 0))), (a37, .inl (G.2 0, 36, .inl (fun _ => 0))), (a28, .inl (G.2 1, 24, .inr (.inl (fun _ => 0)))), (a21, .inl (G.2 1, 24, .inr (.inl (fun _ => 0)))), (a3, .inl (G.2 2, 2, .inl (fun _ => 0))), (a14, .inr (1, [.long 0, .int 1000, .int (-1), .int (-1), .int 0, .ref a39, .ref a40, .ref a41, .ref a42, .ref a43, .ref a44, .long 0, .ref a45])), (a39, .inl (G.2 4, 6, .inr (.inr (.inr (.inr (fun _ => none)))))), (a40, .inr (6, [.int 6, .int 5, .ref a46, .int 0])), (a46, .inl (G.2 0, 30, .inl (fun _ => 0))), (a41, .inr (6, [.int 5, .int 24, .ref a47, .int 0])), (a47, .inl (G.2 0, 120, .inl (fun _ => 0))), (a42, .inr (6, [.int 10, .int 4, .ref a48, .int 0])), (a48, .inl (G.2 0, 40, .inl (fun _ => 0))), (a43, .inr (6, [.int 8, .int 5, .ref a49, .int 0])), (a49, .inl (G.2 0, 40, .inl (fun _ => 0))), (a44, .inr (6, [.int 6, .int 6, .ref a50, .int 0])), (a50, .inl (G.2 0, 36, .inl (fun _ => 0))), (a45, .inl (G.2 1, 24, .inr (.inl (fun _ => 0))))] sz)) (va_A [(a0, .inr (11, [.ref a1, .ref a2, .ref a3, .ref a4, .ref a5, .ref a6, .ref a7, .ref a8, .ref a9, .ref a10, .int 0, .int 0, .int (-1), .ref a11, .int 0, .ref a12, .int 0])), (a12, .inl (G.2 0, 5, .inl (fun _ => 0))), (a2, .inl (G.2 3, 2, .inr (.inr (.inr (.inr (va_up (va_up (fun _ => none) 0 (some a13)) 1 (some a14))))))), (a13, .inr (1, [.long 0, .int 1000, .int (-1), .int (-1), .int 0, .ref a15, .ref a16, .ref a17, .ref a18, .ref a19, .ref a20, .long 0, .ref a21])), (a1, .inr (1, [.long 0, .int 1000, .int (-1), .int (-1), .int 0, .ref a22, .ref a23, .ref a24, .ref a25, .ref a26, .ref a27, .long 0, .ref a28])), (a22, .inl (G.2 4, 6, .inr (.inr (.inr (.inr (fun _ => none)))))), (a15, .inl (G.2 4, 6, .inr (.inr (.inr (.inr (fun _ => none)))))), (a16, .inr (6, [.int 6, .int 5, .ref a29, .int 0])), (a23, .inr (6, [.int 6, .int 5, .ref a30, .int 0])), (a30, .inl (G.2 0, 30, .inl (fun _ => 0))), (a29, .inl (G.2 0, 30, .inl (fun _ => 0))), (a17, .inr (6, [.int 5, .int 24, .ref a31, .int 0])), (a24, .inr (6, [.int 5, .int 24, .ref a32, .int 0])), (a32, .inl (G.2 0, 120, .inl (fun _ => 0))), (a31, .inl (G.2 0, 120, .inl (fun _ => 0))), (a18, .inr (6, [.int 10, .int 4, .ref a33, .int 0])), (a25, .inr (6, [.int 10, .int 4, .ref a34, .int 0])), (a34, .inl (G.2 0, 40, .inl (fun _ => 0))), (a33, .inl (G.2 0, 40, .inl (fun _ => 0))), (a19, .inr (6, [.int 8, .int 5, .ref a35, .int 0])), (a26, .inr (6, [.int 8, .int 5, .ref a36, .int 0])), (a36, .inl (G.2 0, 40, .inl (fun _ => 0))), (a35, .inl (G.2 0, 40, .inl (fun _ => 0))), (a20, .inr (6, [.int 6, .int 6, .ref a37, .int 0])), (a27, .inr (6, [.int 6, .int 6, .ref a38, .int 0])), (a38, .inl (G.2 0, 36, .inl (fun _ => 0))), (a37, .inl (G.2 0, 36, .inl (fun _ => 0))), (a28, .inl (G.2 1, 24, .inr (.inl (fun _ => 0)))), (a21, .inl (G.2 1, 24, .inr (.inl (fun _ => 0)))), (a3, .inl (G.2 2, 2, .inl (fun _ => 0))), (a14, .inr (1, [.long 0, .int 1000, .int (-1), .int (-1), .int 0, .ref a39, .ref a40, .ref a41, .ref a42, .ref a43, .ref a44, .long 0, .ref a45])), (a39, .inl (G.2 4, 6, .inr (.inr (.inr (.inr (fun _ => none)))))), (a40, .inr (6, [.int 6, .int 5, .ref a46, .int 0])), (a46, .inl (G.2 0, 30, .inl (fun _ => 0))), (a41, .inr (6, [.int 5, .int 24, .ref a47, .int 0])), (a47, .inl (G.2 0, 120, .inl (fun _ => 0))), (a42, .inr (6, [.int 10, .int 4, .ref a48, .int 0])), (a48, .inl (G.2 0, 40, .inl (fun _ => 0))), (a43, .inr (6, [.int 8, .int 5, .ref a49, .int 0])), (a49, .inl (G.2 0, 40, .inl (fun _ => 0))), (a44, .inr (6, [.int 6, .int 6, .ref a50, .int 0])), (a50, .inl (G.2 0, 36, .inl (fun _ => 0))), (a45, .inl (G.2 1, 24, .inr (.inl (fun _ => 0))))] sz)) 0 0 (va_A [(a0, .inr (11, [.ref a1, .ref a2, .ref a3, .ref a4, .ref a5, .ref a6, .ref a7, .ref a8, .ref a9, .ref a10, .int 0, .int 0, .int (-1), .ref a11, .int 0, .ref a12, .int 0])), (a12, .inl (G.2 0, 5, .inl (fun _ => 0))), (a2, .inl (G.2 3, 2, .inr (.inr (.inr (.inr (va_up (va_up (fun _ => none) 0 (some a13)) 1 (some a14))))))), (a13, .inr (1, [.long 0, .int 1000, .int (-1), .int (-1), .int 0, .ref a15, .ref a16, .ref a17, .ref a18, .ref a19, .ref a20, .long 0, .ref a21])), (a1, .inr (1, [.long 0, .int 1000, .int (-1), .int (-1), .int 0, .ref a22, .ref a23, .ref a24, .ref a25, .ref a26, .ref a27, .long 0, .ref a28])), (a22, .inl (G.2 4, 6, .inr (.inr (.inr (.inr (fun _ => none)))))), (a15, .inl (G.2 4, 6, .inr (.inr (.inr (.inr (fun _ => none)))))), (a16, .inr (6, [.int 6, .int 5, .ref a29, .int 0])), (a23, .inr (6, [.int 6, .int 5, .ref a30, .int 0])), (a30, .inl (G.2 0, 30, .inl (fun _ => 0))), (a29, .inl (G.2 0, 30, .inl (fun _ => 0))), (a17, .inr (6, [.int 5, .int 24, .ref a31, .int 0])), (a24, .inr (6, [.int 5, .int 24, .ref a32, .int 0])), (a32, .inl (G.2 0, 120, .inl (fun _ => 0))), (a31, .inl (G.2 0, 120, .inl (fun _ => 0))), (a18, .inr (6, [.int 10, .int 4, .ref a33, .int 0])), (a25, .inr (6, [.int 10, .int 4, .ref a34, .int 0])), (a34, .inl (G.2 0, 40, .inl (fun _ => 0))), (a33, .inl (G.2 0, 40, .inl (fun _ => 0))), (a19, .inr (6, [.int 8, .int 5, .ref a35, .int 0])), (a26, .inr (6, [.int 8, .int 5, .ref a36, .int 0])), (a36, .inl (G.2 0, 40, .inl (fun _ => 0))), (a35, .inl (G.2 0, 40, .inl (fun _ => 0))), (a20, .inr (6, [.int 6, .int 6, .ref a37, .int 0])), (a27, .inr (6, [.int 6, .int 6, .ref a38, .int 0])), (a38, .inl (G.2 0, 36, .inl (fun _ => 0))), (a37, .inl (G.2 0, 36, .inl (fun _ => 0))), (a28, .inl (G.2 1, 24, .inr (.inl (fun _ => 0)))), (a21, .inl (G.2 1, 24, .inr (.inl (fun _ => 0)))), (a3, .inl (G.2 2, 2, .inl (fun _ => 0))), (a14, .inr (1, [.long 0, .int 1000, .int (-1), .int (-1), .int 0, .ref a39, .ref a40, .ref a41, .ref a42, .ref a43, .ref a44, .long 0, .ref a45])), (a39, .inl (G.2 4, 6, .inr (.inr (.inr (.inr (fun _ => none)))))), (a40, .inr (6, [.int 6, .int 5, .ref a46, .int 0])), (a46, .inl (G.2 0, 30, .inl (fun _ => 0))), (a41, .inr (6, [.int 5, .int 24, .ref a47, .int 0])), (a47, .inl (G.2 0, 120, .inl (fun _ => 0))), (a42, .inr (6, [.int 10, .int 4, .ref a48, .int 0])), (a48, .inl (G.2 0, 40, .inl (fun _ => 0))), (a43, .inr (6, [.int 8, .int 5, .ref a49, .int 0])), (a49, .inl (G.2 0, 40, .inl (fun _ => 0))), (a44, .inr (6, [.int 6, .int 6, .ref a50, .int 0])), (a50, .inl (G.2 0, 36, .inl (fun _ => 0))), (a45, .inl (G.2 1, 24, .inr (.inl (fun _ => 0))))] sz) := by
  refine g5_wkI (kX11_image l G a0 a1 a2 a3 a4 a5 a6 a7 a8 a9 a10 a11 a12 a13 a14 a15 a16 a17 a18 a19 a20 a21 a22 a23 a24 a25 a26 a27 a28 a29 a30 a31 a32 a33 a34 a35 a36 a37 a38 a39 a40 a41 a42 a43 a44 a45 a46 a47 a48 a49 a50 sz n0) (fun r u h => ?_)
  rcases h with ⟨i0, hr, hu⟩ | ⟨i1, i2, hr, hu⟩ | ⟨i3, i4, i5, hr, hu⟩ | ⟨i6, i7, i8, hr, hu⟩
  · refine ⟨?_, hu⟩
    rw [hr]
    rw [show ((-1) : Int32).toInt = (-1) from by decide]
    unfold sp_image; omega
  · refine ⟨?_, hu⟩
    rw [hr]
    rw [show ((-1) : Int32).toInt = (-1) from by decide]
    unfold sp_image; omega
  · refine ⟨?_, hu⟩
    rw [hr]
    rw [show (0 : Int32).toInt = 0 from by decide]
    unfold sp_image; omega
  · refine ⟨?_, hu⟩
    rw [hr]
    rw [show (0 : Int32).toInt = 0 from by decide]
    unfold sp_image; omega
set_option maxHeartbeats 4000000 in
set_option maxRecDepth 100000 in
theorem sX_back (l : Launch) (G : g5_G) (a0 a1 a2 a3 a4 a5 a6 a7 a8 a9 a10 a11 a12 : Nat) (sz : Nat) (n0 : Int32) : Met l yX11_back (wsG yX11_back cX11_back 2 (some .int)) ({ frames := 1, cells := 0, slots := 0, locals := 22 }) (va_Pc [.ref a0, .int n0] (g5_P G [(a0, .inr (11, [.ref a1, .ref a2, .ref a3, .ref a4, .ref a5, .ref a6, .ref a7, .ref a8, .ref a9, .ref a10, .int 0, .int 0, .int (-1), .ref a11, .int 0, .ref a12, .int 0])), (a12, .inl (G.2 0, 5, .inl (fun _ => 0))), (a3, .inl (G.2 2, 2, .inl (fun _ => 0)))] sz)) (va_Qi (fun (r : Int32) (u : va_W) => r.toInt = sp_back n0.toInt ∧ u = []) (g5_B G (va_A [(a0, .inr (11, [.ref a1, .ref a2, .ref a3, .ref a4, .ref a5, .ref a6, .ref a7, .ref a8, .ref a9, .ref a10, .int 0, .int 0, .int (-1), .ref a11, .int 0, .ref a12, .int 0])), (a12, .inl (G.2 0, 5, .inl (fun _ => 0))), (a3, .inl (G.2 2, 2, .inl (fun _ => 0)))] sz)) (va_A [(a0, .inr (11, [.ref a1, .ref a2, .ref a3, .ref a4, .ref a5, .ref a6, .ref a7, .ref a8, .ref a9, .ref a10, .int 0, .int 0, .int (-1), .ref a11, .int 0, .ref a12, .int 0])), (a12, .inl (G.2 0, 5, .inl (fun _ => 0))), (a3, .inl (G.2 2, 2, .inl (fun _ => 0)))] sz)) 0 0 (va_A [(a0, .inr (11, [.ref a1, .ref a2, .ref a3, .ref a4, .ref a5, .ref a6, .ref a7, .ref a8, .ref a9, .ref a10, .int 0, .int 0, .int (-1), .ref a11, .int 0, .ref a12, .int 0])), (a12, .inl (G.2 0, 5, .inl (fun _ => 0))), (a3, .inl (G.2 2, 2, .inl (fun _ => 0)))] sz) := by
  refine g5_wkI (kX11_back l G a0 a1 a2 a3 a4 a5 a6 a7 a8 a9 a10 a11 a12 sz n0) (fun r u h => ?_)
  rcases h with ⟨i0, hr, hu⟩ | ⟨i1, i2, hr, hu⟩ | ⟨i3, i4, hr, hu⟩
  · refine ⟨?_, hu⟩
    rw [hr]
    rw [show ((-1) : Int32).toInt = (-1) from by decide]
    unfold sp_back; omega
  · refine ⟨?_, hu⟩
    rw [hr]
    rw [show ((-1) : Int32).toInt = (-1) from by decide]
    unfold sp_back; omega
  · refine ⟨?_, hu⟩
    rw [hr]
    rw [show ((-2) : Int32).toInt = (-2) from by decide]
    unfold sp_back; omega
set_option maxHeartbeats 4000000 in
set_option maxRecDepth 100000 in
theorem sX_count (l : Launch) (G : g5_G) (a0 a1 a2 a3 a4 a5 a6 a7 a8 a9 a10 a11 a12 a13 a14 a15 a16 a17 a18 a19 a20 a21 a22 a23 a24 : Nat) (sz : Nat) (n0 : Int32) : Met l yX11_count (wsG yX11_count cX11_count 2 (some .int)) ({ frames := 1, cells := 0, slots := 0, locals := 21 }) (va_Pc [.ref a0, .int n0] (g5_P G [(a0, .inr (11, [.ref a1, .ref a2, .ref a3, .ref a4, .ref a5, .ref a6, .ref a7, .ref a8, .ref a9, .ref a10, .int 0, .int 0, .int (-1), .ref a11, .int 0, .ref a12, .int 0])), (a1, .inr (1, [.long 0, .int 1000, .int (-1), .int (-1), .int 0, .ref a13, .ref a14, .ref a15, .ref a16, .ref a17, .ref a18, .long 0, .ref a19])), (a14, .inr (6, [.int 6, .int 5, .ref a20, .int 0])), (a15, .inr (6, [.int 5, .int 24, .ref a21, .int 0])), (a16, .inr (6, [.int 10, .int 4, .ref a22, .int 0])), (a17, .inr (6, [.int 8, .int 5, .ref a23, .int 0])), (a18, .inr (6, [.int 6, .int 6, .ref a24, .int 0])), (a12, .inl (G.2 0, 5, .inl (fun _ => 0)))] sz)) (va_Qi (fun (r : Int32) (u : va_W) => r.toInt = sp_count n0.toInt ∧ u = []) (g5_B G (va_A [(a0, .inr (11, [.ref a1, .ref a2, .ref a3, .ref a4, .ref a5, .ref a6, .ref a7, .ref a8, .ref a9, .ref a10, .int 0, .int 0, .int (-1), .ref a11, .int 0, .ref a12, .int 0])), (a1, .inr (1, [.long 0, .int 1000, .int (-1), .int (-1), .int 0, .ref a13, .ref a14, .ref a15, .ref a16, .ref a17, .ref a18, .long 0, .ref a19])), (a14, .inr (6, [.int 6, .int 5, .ref a20, .int 0])), (a15, .inr (6, [.int 5, .int 24, .ref a21, .int 0])), (a16, .inr (6, [.int 10, .int 4, .ref a22, .int 0])), (a17, .inr (6, [.int 8, .int 5, .ref a23, .int 0])), (a18, .inr (6, [.int 6, .int 6, .ref a24, .int 0])), (a12, .inl (G.2 0, 5, .inl (fun _ => 0)))] sz)) (va_A [(a0, .inr (11, [.ref a1, .ref a2, .ref a3, .ref a4, .ref a5, .ref a6, .ref a7, .ref a8, .ref a9, .ref a10, .int 0, .int 0, .int (-1), .ref a11, .int 0, .ref a12, .int 0])), (a1, .inr (1, [.long 0, .int 1000, .int (-1), .int (-1), .int 0, .ref a13, .ref a14, .ref a15, .ref a16, .ref a17, .ref a18, .long 0, .ref a19])), (a14, .inr (6, [.int 6, .int 5, .ref a20, .int 0])), (a15, .inr (6, [.int 5, .int 24, .ref a21, .int 0])), (a16, .inr (6, [.int 10, .int 4, .ref a22, .int 0])), (a17, .inr (6, [.int 8, .int 5, .ref a23, .int 0])), (a18, .inr (6, [.int 6, .int 6, .ref a24, .int 0])), (a12, .inl (G.2 0, 5, .inl (fun _ => 0)))] sz)) 0 0 (va_A [(a0, .inr (11, [.ref a1, .ref a2, .ref a3, .ref a4, .ref a5, .ref a6, .ref a7, .ref a8, .ref a9, .ref a10, .int 0, .int 0, .int (-1), .ref a11, .int 0, .ref a12, .int 0])), (a1, .inr (1, [.long 0, .int 1000, .int (-1), .int (-1), .int 0, .ref a13, .ref a14, .ref a15, .ref a16, .ref a17, .ref a18, .long 0, .ref a19])), (a14, .inr (6, [.int 6, .int 5, .ref a20, .int 0])), (a15, .inr (6, [.int 5, .int 24, .ref a21, .int 0])), (a16, .inr (6, [.int 10, .int 4, .ref a22, .int 0])), (a17, .inr (6, [.int 8, .int 5, .ref a23, .int 0])), (a18, .inr (6, [.int 6, .int 6, .ref a24, .int 0])), (a12, .inl (G.2 0, 5, .inl (fun _ => 0)))] sz) := by
  refine g5_wkI (kX11_count l G a0 a1 a2 a3 a4 a5 a6 a7 a8 a9 a10 a11 a12 a13 a14 a15 a16 a17 a18 a19 a20 a21 a22 a23 a24 sz n0) (fun r u h => ?_)
  rcases h with ⟨i0, i1, hr, hu⟩ | ⟨i2, i3, hr, hu⟩ | ⟨i4, i5, hr, hu⟩ | ⟨i6, i7, hr, hu⟩ | ⟨i8, i9, hr, hu⟩ | ⟨i10, i11, hr, hu⟩ | ⟨i12, i13, hr, hu⟩ | ⟨i14, i15, hr, hu⟩ | ⟨i16, i17, hr, hu⟩ | ⟨i18, i19, i20, hr, hu⟩ | ⟨i21, i22, i23, hr, hu⟩ | ⟨i24, i25, hr, hu⟩
  · refine ⟨?_, hu⟩
    rw [hr]
    rw [show (0 : Int32).toInt = 0 from by decide]
    unfold sp_count; omega
  · refine ⟨?_, hu⟩
    rw [hr]
    rw [show (0 : Int32).toInt = 0 from by decide]
    unfold sp_count; omega
  · refine ⟨?_, hu⟩
    rw [hr]
    rw [show (0 : Int32).toInt = 0 from by decide]
    unfold sp_count; omega
  · refine ⟨?_, hu⟩
    rw [hr]
    rw [show (0 : Int32).toInt = 0 from by decide]
    unfold sp_count; omega
  · refine ⟨?_, hu⟩
    rw [hr]
    rw [show (0 : Int32).toInt = 0 from by decide]
    unfold sp_count; omega
  · refine ⟨?_, hu⟩
    rw [hr]
    rw [show (0 : Int32).toInt = 0 from by decide]
    unfold sp_count; omega
  · refine ⟨?_, hu⟩
    rw [hr]
    rw [show (0 : Int32).toInt = 0 from by decide]
    unfold sp_count; omega
  · refine ⟨?_, hu⟩
    rw [hr]
    rw [show (0 : Int32).toInt = 0 from by decide]
    unfold sp_count; omega
  · refine ⟨?_, hu⟩
    rw [hr]
    rw [show ((-1) : Int32).toInt = (-1) from by decide]
    unfold sp_count; omega
  · refine ⟨?_, hu⟩
    rw [hr]
    rw [show ((-1) : Int32).toInt = (-1) from by decide]
    unfold sp_count; omega
  · refine ⟨?_, hu⟩
    rw [hr]
    rw [show ((-1) : Int32).toInt = (-1) from by decide]
    unfold sp_count; omega
  · refine ⟨?_, hu⟩
    rw [hr]
    rw [show (0 : Int32).toInt = 0 from by decide]
    unfold sp_count; omega
set_option maxHeartbeats 4000000 in
set_option maxRecDepth 100000 in
theorem sX_status (l : Launch) (G : g5_G) (a0 a1 a2 a3 a4 a5 a6 a7 a8 a9 a10 a11 a12 : Nat) (sz : Nat) : Met l yX11_status (wsG yX11_status cX11_status 1 (some .int)) ({ frames := 0, cells := 0, slots := 0, locals := 0 }) (va_Pc [.ref a0] (g5_P G [(a0, .inr (11, [.ref a1, .ref a2, .ref a3, .ref a4, .ref a5, .ref a6, .ref a7, .ref a8, .ref a9, .ref a10, .int 0, .int 0, .int (-1), .ref a11, .int 0, .ref a12, .int 0]))] sz)) (va_Qi (fun (r : Int32) (u : va_W) => r.toInt = sp_status ∧ u = []) (g5_B G (va_A [(a0, .inr (11, [.ref a1, .ref a2, .ref a3, .ref a4, .ref a5, .ref a6, .ref a7, .ref a8, .ref a9, .ref a10, .int 0, .int 0, .int (-1), .ref a11, .int 0, .ref a12, .int 0]))] sz)) (va_A [(a0, .inr (11, [.ref a1, .ref a2, .ref a3, .ref a4, .ref a5, .ref a6, .ref a7, .ref a8, .ref a9, .ref a10, .int 0, .int 0, .int (-1), .ref a11, .int 0, .ref a12, .int 0]))] sz)) 0 0 (va_A [(a0, .inr (11, [.ref a1, .ref a2, .ref a3, .ref a4, .ref a5, .ref a6, .ref a7, .ref a8, .ref a9, .ref a10, .int 0, .int 0, .int (-1), .ref a11, .int 0, .ref a12, .int 0]))] sz) := by
  refine g5_wkI (kX11_status l G a0 a1 a2 a3 a4 a5 a6 a7 a8 a9 a10 a11 a12 sz) (fun r u h => ?_)
  obtain ⟨hr, hu⟩ := h
  refine ⟨?_, hu⟩
  rw [hr]
  rw [show (0 : Int32).toInt = 0 from by decide]
  unfold sp_status; omega
