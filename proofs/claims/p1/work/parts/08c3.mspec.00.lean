set_option maxHeartbeats 4000000 in
set_option maxRecDepth 100000 in
theorem sM_wall (l : Launch) (G : g5_G) (a0 a1 a2 a3 a4 a5 a6 a7 a8 a9 a10 a11 a12 a13 a14 a15 a16 a17 a18 a19 a20 a21 a22 : Nat) (sz : Nat) (n0 : Int32) (n1 : Int32) : Met l yX12_wall (wsG yX12_wall cX12_wall 3 (some .int)) ({ frames := 2, cells := 0, slots := 0, locals := 45 }) (va_Pc [.ref a0, .int n0, .int n1] (g5_P G [(a0, .inr (12, [.int 0, .int 0, .ref a1, .ref a2, .ref a3, .ref a4, .int 0, .ref a5, .int 0, .int 0, .int 0, .int 0, .long 0, .int (-1), .int 0, .int 0, .ref a6, .int 0, .ref a7, .ref a8, .int 0, .ref a9, .ref a10, .int 0, .int 0, .ref a11, .ref a12, .int 0, .ref a13, .ref a14, .int 0, .long 0, .long 0, .int 0, .int 0, .int 0, .int 0, .int 0, .ref a15, .int 0, .int 0, .ref a16, .int 0, .ref a17, .ref a18, .ref a19, .int 0, .ref a20, .ref a21, .long 0, .ref a22, .int 0])), (a1, .inl (G.2 0, 7, .inl (fun _ => 0))), (a2, .inl (G.2 0, 5740, .inl (upd (upd (upd (fun _ => 0) 3 (-1)) 4 1000) 6 (-1))))] sz)) (va_Qi (fun (r : Int32) (u : va_W) => r.toInt = sp_wall n0.toInt n1.toInt ∧ u = []) (g5_B G (va_A [(a0, .inr (12, [.int 0, .int 0, .ref a1, .ref a2, .ref a3, .ref a4, .int 0, .ref a5, .int 0, .int 0, .int 0, .int 0, .long 0, .int (-1), .int 0, .int 0, .ref a6, .int 0, .ref a7, .ref a8, .int 0, .ref a9, .ref a10, .int 0, .int 0, .ref a11, .ref a12, .int 0, .ref a13, .ref a14, .int 0, .long 0, .long 0, .int 0, .int 0, .int 0, .int 0, .int 0, .ref a15, .int 0, .int 0, .ref a16, .int 0, .ref a17, .ref a18, .ref a19, .int 0, .ref a20, .ref a21, .long 0, .ref a22, .int 0])), (a1, .inl (G.2 0, 7, .inl (fun _ => 0))), (a2, .inl (G.2 0, 5740, .inl (upd (upd (upd (fun _ => 0) 3 (-1)) 4 1000) 6 (-1))))] sz)) (va_A [(a0, .inr (12, [.int 0, .int 0, .ref a1, .ref a2, .ref a3, .ref a4, .int 0, .ref a5, .int 0, .int 0, .int 0, .int 0, .long 0, .int (-1), .int 0, .int 0, .ref a6, .int 0, .ref a7, .ref a8, .int 0, .ref a9, .ref a10, .int 0, .int 0, .ref a11, .ref a12, .int 0, .ref a13, .ref a14, .int 0, .long 0, .long 0, .int 0, .int 0, .int 0, .int 0, .int 0, .ref a15, .int 0, .int 0, .ref a16, .int 0, .ref a17, .ref a18, .ref a19, .int 0, .ref a20, .ref a21, .long 0, .ref a22, .int 0])), (a1, .inl (G.2 0, 7, .inl (fun _ => 0))), (a2, .inl (G.2 0, 5740, .inl (upd (upd (upd (fun _ => 0) 3 (-1)) 4 1000) 6 (-1))))] sz)) 0 0 (va_A [(a0, .inr (12, [.int 0, .int 0, .ref a1, .ref a2, .ref a3, .ref a4, .int 0, .ref a5, .int 0, .int 0, .int 0, .int 0, .long 0, .int (-1), .int 0, .int 0, .ref a6, .int 0, .ref a7, .ref a8, .int 0, .ref a9, .ref a10, .int 0, .int 0, .ref a11, .ref a12, .int 0, .ref a13, .ref a14, .int 0, .long 0, .long 0, .int 0, .int 0, .int 0, .int 0, .int 0, .ref a15, .int 0, .int 0, .ref a16, .int 0, .ref a17, .ref a18, .ref a19, .int 0, .ref a20, .ref a21, .long 0, .ref a22, .int 0])), (a1, .inl (G.2 0, 7, .inl (fun _ => 0))), (a2, .inl (G.2 0, 5740, .inl (upd (upd (upd (fun _ => 0) 3 (-1)) 4 1000) 6 (-1))))] sz) := by
  refine g5_wkI (kX12_wall l G a0 a1 a2 a3 a4 a5 a6 a7 a8 a9 a10 a11 a12 a13 a14 a15 a16 a17 a18 a19 a20 a21 a22 sz n0 n1) (fun r u h => ?_)
  rcases h with ⟨i0, hr, hu⟩ | ⟨i1, i2, hr, hu⟩ | ⟨i3, i4, i5, hr, hu⟩ | ⟨i6, i7, i8, i9, hr, hu⟩
  · refine ⟨?_, hu⟩
    rw [hr]
    rw [show ((-1) : Int32).toInt = (-1) from by decide]
    unfold sp_wall; omega
  · refine ⟨?_, hu⟩
    rw [hr]
    rw [show ((-1) : Int32).toInt = (-1) from by decide]
    unfold sp_wall; omega
  · refine ⟨?_, hu⟩
    rw [hr]
    rw [show (0 : Int32).toInt = 0 from by decide]
    unfold sp_wall; omega
  · refine ⟨?_, hu⟩
    rw [hr]
    rw [show (0 : Int32).toInt = 0 from by decide]
    unfold sp_wall; omega
set_option maxHeartbeats 4000000 in
set_option maxRecDepth 100000 in
theorem sM_glass (l : Launch) (G : g5_G) (a0 a1 a2 a3 a4 a5 a6 a7 a8 a9 a10 a11 a12 a13 a14 a15 a16 a17 a18 a19 a20 a21 a22 : Nat) (sz : Nat) (n0 : Int32) (n1 : Int32) (n2 : Int32) (n3 : Int32) : Met l yX12_glass (wsG yX12_glass cX12_glass 7 (some .int)) ({ frames := 2, cells := 0, slots := 0, locals := 46 }) (va_Pc [.ref a0, .int n0, .int n1, .int n2, .int n3] (g5_P G [(a0, .inr (12, [.int 0, .int 0, .ref a1, .ref a2, .ref a3, .ref a4, .int 0, .ref a5, .int 0, .int 0, .int 0, .int 0, .long 0, .int (-1), .int 0, .int 0, .ref a6, .int 0, .ref a7, .ref a8, .int 0, .ref a9, .ref a10, .int 0, .int 0, .ref a11, .ref a12, .int 0, .ref a13, .ref a14, .int 0, .long 0, .long 0, .int 0, .int 0, .int 0, .int 0, .int 0, .ref a15, .int 0, .int 0, .ref a16, .int 0, .ref a17, .ref a18, .ref a19, .int 0, .ref a20, .ref a21, .long 0, .ref a22, .int 0])), (a1, .inl (G.2 0, 7, .inl (fun _ => 0))), (a2, .inl (G.2 0, 5740, .inl (upd (upd (upd (fun _ => 0) 3 (-1)) 4 1000) 6 (-1))))] sz)) (va_Qi (fun (r : Int32) (u : va_W) => r.toInt = sp_glass n0.toInt n1.toInt n2.toInt n3.toInt ∧ u = []) (g5_B G (va_A [(a0, .inr (12, [.int 0, .int 0, .ref a1, .ref a2, .ref a3, .ref a4, .int 0, .ref a5, .int 0, .int 0, .int 0, .int 0, .long 0, .int (-1), .int 0, .int 0, .ref a6, .int 0, .ref a7, .ref a8, .int 0, .ref a9, .ref a10, .int 0, .int 0, .ref a11, .ref a12, .int 0, .ref a13, .ref a14, .int 0, .long 0, .long 0, .int 0, .int 0, .int 0, .int 0, .int 0, .ref a15, .int 0, .int 0, .ref a16, .int 0, .ref a17, .ref a18, .ref a19, .int 0, .ref a20, .ref a21, .long 0, .ref a22, .int 0])), (a1, .inl (G.2 0, 7, .inl (fun _ => 0))), (a2, .inl (G.2 0, 5740, .inl (upd (upd (upd (fun _ => 0) 3 (-1)) 4 1000) 6 (-1))))] sz)) (va_A [(a0, .inr (12, [.int 0, .int 0, .ref a1, .ref a2, .ref a3, .ref a4, .int 0, .ref a5, .int 0, .int 0, .int 0, .int 0, .long 0, .int (-1), .int 0, .int 0, .ref a6, .int 0, .ref a7, .ref a8, .int 0, .ref a9, .ref a10, .int 0, .int 0, .ref a11, .ref a12, .int 0, .ref a13, .ref a14, .int 0, .long 0, .long 0, .int 0, .int 0, .int 0, .int 0, .int 0, .ref a15, .int 0, .int 0, .ref a16, .int 0, .ref a17, .ref a18, .ref a19, .int 0, .ref a20, .ref a21, .long 0, .ref a22, .int 0])), (a1, .inl (G.2 0, 7, .inl (fun _ => 0))), (a2, .inl (G.2 0, 5740, .inl (upd (upd (upd (fun _ => 0) 3 (-1)) 4 1000) 6 (-1))))] sz)) 0 0 (va_A [(a0, .inr (12, [.int 0, .int 0, .ref a1, .ref a2, .ref a3, .ref a4, .int 0, .ref a5, .int 0, .int 0, .int 0, .int 0, .long 0, .int (-1), .int 0, .int 0, .ref a6, .int 0, .ref a7, .ref a8, .int 0, .ref a9, .ref a10, .int 0, .int 0, .ref a11, .ref a12, .int 0, .ref a13, .ref a14, .int 0, .long 0, .long 0, .int 0, .int 0, .int 0, .int 0, .int 0, .ref a15, .int 0, .int 0, .ref a16, .int 0, .ref a17, .ref a18, .ref a19, .int 0, .ref a20, .ref a21, .long 0, .ref a22, .int 0])), (a1, .inl (G.2 0, 7, .inl (fun _ => 0))), (a2, .inl (G.2 0, 5740, .inl (upd (upd (upd (fun _ => 0) 3 (-1)) 4 1000) 6 (-1))))] sz) := by
  refine g5_wkI (kX12_glass l G a0 a1 a2 a3 a4 a5 a6 a7 a8 a9 a10 a11 a12 a13 a14 a15 a16 a17 a18 a19 a20 a21 a22 sz n0 n1 n2 n3) (fun r u h => ?_)
  rcases h with ⟨i0, hr, hu⟩ | ⟨i1, i2, hr, hu⟩ | ⟨i3, i4, i5, hr, hu⟩ | ⟨i6, i7, i8, i9, hr, hu⟩ | ⟨i10, i11, i12, i13, hr, hu⟩
  · refine ⟨?_, hu⟩
    rw [hr]
    rw [show ((-1) : Int32).toInt = (-1) from by decide]
    unfold sp_glass; omega
  · refine ⟨?_, hu⟩
    rw [hr]
    rw [show ((-1) : Int32).toInt = (-1) from by decide]
    unfold sp_glass; omega
  · refine ⟨?_, hu⟩
    rw [hr]
    rw [show ((-1) : Int32).toInt = (-1) from by decide]
    unfold sp_glass; omega
  · refine ⟨?_, hu⟩
    rw [hr]
    rw [show ((-1) : Int32).toInt = (-1) from by decide]
    unfold sp_glass; omega
  · refine ⟨?_, hu⟩
    rw [hr]
    rw [show (0 : Int32).toInt = 0 from by decide]
    unfold sp_glass; omega
set_option maxHeartbeats 4000000 in
set_option maxRecDepth 100000 in
theorem sM_turn (l : Launch) (G : g5_G) (a0 a1 a2 a3 a4 a5 a6 a7 a8 a9 a10 a11 a12 a13 a14 a15 a16 a17 a18 a19 a20 a21 a22 : Nat) (sz : Nat) (n0 : Int32) (n1 : Int32) (n2 : Int32) : Met l yX12_turn (wsG yX12_turn cX12_turn 4 (some .int)) ({ frames := 2, cells := 0, slots := 0, locals := 46 }) (va_Pc [.ref a0, .int n0, .int n1, .int n2] (g5_P G [(a0, .inr (12, [.int 0, .int 0, .ref a1, .ref a2, .ref a3, .ref a4, .int 0, .ref a5, .int 0, .int 0, .int 0, .int 0, .long 0, .int (-1), .int 0, .int 0, .ref a6, .int 0, .ref a7, .ref a8, .int 0, .ref a9, .ref a10, .int 0, .int 0, .ref a11, .ref a12, .int 0, .ref a13, .ref a14, .int 0, .long 0, .long 0, .int 0, .int 0, .int 0, .int 0, .int 0, .ref a15, .int 0, .int 0, .ref a16, .int 0, .ref a17, .ref a18, .ref a19, .int 0, .ref a20, .ref a21, .long 0, .ref a22, .int 0])), (a1, .inl (G.2 0, 7, .inl (fun _ => 0))), (a2, .inl (G.2 0, 5740, .inl (upd (upd (upd (fun _ => 0) 3 (-1)) 4 1000) 6 (-1))))] sz)) (va_Qi (fun (r : Int32) (u : va_W) => r.toInt = sp_turn n0.toInt n1.toInt n2.toInt ∧ u = []) (g5_B G (va_A [(a0, .inr (12, [.int 0, .int 0, .ref a1, .ref a2, .ref a3, .ref a4, .int 0, .ref a5, .int 0, .int 0, .int 0, .int 0, .long 0, .int (-1), .int 0, .int 0, .ref a6, .int 0, .ref a7, .ref a8, .int 0, .ref a9, .ref a10, .int 0, .int 0, .ref a11, .ref a12, .int 0, .ref a13, .ref a14, .int 0, .long 0, .long 0, .int 0, .int 0, .int 0, .int 0, .int 0, .ref a15, .int 0, .int 0, .ref a16, .int 0, .ref a17, .ref a18, .ref a19, .int 0, .ref a20, .ref a21, .long 0, .ref a22, .int 0])), (a1, .inl (G.2 0, 7, .inl (fun _ => 0))), (a2, .inl (G.2 0, 5740, .inl (upd (upd (upd (fun _ => 0) 3 (-1)) 4 1000) 6 (-1))))] sz)) (va_A [(a0, .inr (12, [.int 0, .int 0, .ref a1, .ref a2, .ref a3, .ref a4, .int 0, .ref a5, .int 0, .int 0, .int 0, .int 0, .long 0, .int (-1), .int 0, .int 0, .ref a6, .int 0, .ref a7, .ref a8, .int 0, .ref a9, .ref a10, .int 0, .int 0, .ref a11, .ref a12, .int 0, .ref a13, .ref a14, .int 0, .long 0, .long 0, .int 0, .int 0, .int 0, .int 0, .int 0, .ref a15, .int 0, .int 0, .ref a16, .int 0, .ref a17, .ref a18, .ref a19, .int 0, .ref a20, .ref a21, .long 0, .ref a22, .int 0])), (a1, .inl (G.2 0, 7, .inl (fun _ => 0))), (a2, .inl (G.2 0, 5740, .inl (upd (upd (upd (fun _ => 0) 3 (-1)) 4 1000) 6 (-1))))] sz)) 0 0 (va_A [(a0, .inr (12, [.int 0, .int 0, .ref a1, .ref a2, .ref a3, .ref a4, .int 0, .ref a5, .int 0, .int 0, .int 0, .int 0, .long 0, .int (-1), .int 0, .int 0, .ref a6, .int 0, .ref a7, .ref a8, .int 0, .ref a9, .ref a10, .int 0, .int 0, .ref a11, .ref a12, .int 0, .ref a13, .ref a14, .int 0, .long 0, .long 0, .int 0, .int 0, .int 0, .int 0, .int 0, .ref a15, .int 0, .int 0, .ref a16, .int 0, .ref a17, .ref a18, .ref a19, .int 0, .ref a20, .ref a21, .long 0, .ref a22, .int 0])), (a1, .inl (G.2 0, 7, .inl (fun _ => 0))), (a2, .inl (G.2 0, 5740, .inl (upd (upd (upd (fun _ => 0) 3 (-1)) 4 1000) 6 (-1))))] sz) := by
  refine g5_wkI (kX12_turn l G a0 a1 a2 a3 a4 a5 a6 a7 a8 a9 a10 a11 a12 a13 a14 a15 a16 a17 a18 a19 a20 a21 a22 sz n0 n1 n2) (fun r u h => ?_)
  rcases h with ⟨i0, i1, hr, hu⟩ | ⟨i2, i3, i4, hr, hu⟩ | ⟨i5, i6, hr, hu⟩ | ⟨i7, i8, i9, hr, hu⟩ | ⟨i10, i11, hr, hu⟩ | ⟨i12, i13, i14, hr, hu⟩ | ⟨i15, i16, hr, hu⟩ | ⟨i17, i18, i19, hr, hu⟩ | ⟨i20, hr, hu⟩ | ⟨i21, hr, hu⟩
  · refine ⟨?_, hu⟩
    rw [hr]
    rw [show ((-1) : Int32).toInt = (-1) from by decide]
    unfold sp_turn; omega
  · refine ⟨?_, hu⟩
    rw [hr]
    rw [show ((-2) : Int32).toInt = (-2) from by decide]
    unfold sp_turn; omega
  · refine ⟨?_, hu⟩
    rw [hr]
    rw [show ((-1) : Int32).toInt = (-1) from by decide]
    unfold sp_turn; omega
  · refine ⟨?_, hu⟩
    rw [hr]
    rw [show ((-2) : Int32).toInt = (-2) from by decide]
    unfold sp_turn; omega
  · refine ⟨?_, hu⟩
    rw [hr]
    rw [show ((-1) : Int32).toInt = (-1) from by decide]
    unfold sp_turn; omega
  · refine ⟨?_, hu⟩
    rw [hr]
    rw [show ((-2) : Int32).toInt = (-2) from by decide]
    unfold sp_turn; omega
  · refine ⟨?_, hu⟩
    rw [hr]
    rw [show ((-1) : Int32).toInt = (-1) from by decide]
    unfold sp_turn; omega
  · refine ⟨?_, hu⟩
    rw [hr]
    rw [show ((-2) : Int32).toInt = (-2) from by decide]
    unfold sp_turn; omega
  · refine ⟨?_, hu⟩
    rw [hr]
    rw [show ((-1) : Int32).toInt = (-1) from by decide]
    unfold sp_turn; omega
  · refine ⟨?_, hu⟩
    rw [hr]
    rw [show ((-1) : Int32).toInt = (-1) from by decide]
    unfold sp_turn; omega
set_option maxHeartbeats 4000000 in
set_option maxRecDepth 100000 in
theorem sM_of (l : Launch) (G : g5_G) (a0 a1 a2 a3 a4 a5 a6 a7 a8 a9 a10 a11 a12 a13 a14 a15 a16 a17 a18 a19 a20 a21 a22 : Nat) (sz : Nat) (n0 : Int32) (n1 : Int32) : Met l yX12_of (wsG yX12_of cX12_of 3 (some .int)) ({ frames := 2, cells := 0, slots := 0, locals := 46 }) (va_Pc [.ref a0, .int n0, .int n1] (g5_P G [(a0, .inr (12, [.int 0, .int 0, .ref a1, .ref a2, .ref a3, .ref a4, .int 0, .ref a5, .int 0, .int 0, .int 0, .int 0, .long 0, .int (-1), .int 0, .int 0, .ref a6, .int 0, .ref a7, .ref a8, .int 0, .ref a9, .ref a10, .int 0, .int 0, .ref a11, .ref a12, .int 0, .ref a13, .ref a14, .int 0, .long 0, .long 0, .int 0, .int 0, .int 0, .int 0, .int 0, .ref a15, .int 0, .int 0, .ref a16, .int 0, .ref a17, .ref a18, .ref a19, .int 0, .ref a20, .ref a21, .long 0, .ref a22, .int 0])), (a2, .inl (G.2 0, 5740, .inl (upd (upd (upd (fun _ => 0) 3 (-1)) 4 1000) 6 (-1))))] sz)) (va_Qi (fun (r : Int32) (u : va_W) => r.toInt = sp_of n0.toInt n1.toInt ∧ u = []) (g5_B G (va_A [(a0, .inr (12, [.int 0, .int 0, .ref a1, .ref a2, .ref a3, .ref a4, .int 0, .ref a5, .int 0, .int 0, .int 0, .int 0, .long 0, .int (-1), .int 0, .int 0, .ref a6, .int 0, .ref a7, .ref a8, .int 0, .ref a9, .ref a10, .int 0, .int 0, .ref a11, .ref a12, .int 0, .ref a13, .ref a14, .int 0, .long 0, .long 0, .int 0, .int 0, .int 0, .int 0, .int 0, .ref a15, .int 0, .int 0, .ref a16, .int 0, .ref a17, .ref a18, .ref a19, .int 0, .ref a20, .ref a21, .long 0, .ref a22, .int 0])), (a2, .inl (G.2 0, 5740, .inl (upd (upd (upd (fun _ => 0) 3 (-1)) 4 1000) 6 (-1))))] sz)) (va_A [(a0, .inr (12, [.int 0, .int 0, .ref a1, .ref a2, .ref a3, .ref a4, .int 0, .ref a5, .int 0, .int 0, .int 0, .int 0, .long 0, .int (-1), .int 0, .int 0, .ref a6, .int 0, .ref a7, .ref a8, .int 0, .ref a9, .ref a10, .int 0, .int 0, .ref a11, .ref a12, .int 0, .ref a13, .ref a14, .int 0, .long 0, .long 0, .int 0, .int 0, .int 0, .int 0, .int 0, .ref a15, .int 0, .int 0, .ref a16, .int 0, .ref a17, .ref a18, .ref a19, .int 0, .ref a20, .ref a21, .long 0, .ref a22, .int 0])), (a2, .inl (G.2 0, 5740, .inl (upd (upd (upd (fun _ => 0) 3 (-1)) 4 1000) 6 (-1))))] sz)) 0 0 (va_A [(a0, .inr (12, [.int 0, .int 0, .ref a1, .ref a2, .ref a3, .ref a4, .int 0, .ref a5, .int 0, .int 0, .int 0, .int 0, .long 0, .int (-1), .int 0, .int 0, .ref a6, .int 0, .ref a7, .ref a8, .int 0, .ref a9, .ref a10, .int 0, .int 0, .ref a11, .ref a12, .int 0, .ref a13, .ref a14, .int 0, .long 0, .long 0, .int 0, .int 0, .int 0, .int 0, .int 0, .ref a15, .int 0, .int 0, .ref a16, .int 0, .ref a17, .ref a18, .ref a19, .int 0, .ref a20, .ref a21, .long 0, .ref a22, .int 0])), (a2, .inl (G.2 0, 5740, .inl (upd (upd (upd (fun _ => 0) 3 (-1)) 4 1000) 6 (-1))))] sz) := by
  refine g5_wkI (kX12_of l G a0 a1 a2 a3 a4 a5 a6 a7 a8 a9 a10 a11 a12 a13 a14 a15 a16 a17 a18 a19 a20 a21 a22 sz n0 n1) (fun r u h => ?_)
  obtain ⟨i0, hr, hu⟩ := h
  refine ⟨?_, hu⟩
  rw [hr]
  rw [show ((-1) : Int32).toInt = (-1) from by decide]
  unfold sp_of; omega
set_option maxHeartbeats 4000000 in
set_option maxRecDepth 100000 in
theorem sM_body (l : Launch) (G : g5_G) (a0 a1 a2 a3 a4 a5 a6 a7 a8 a9 a10 a11 a12 a13 a14 a15 a16 a17 a18 a19 a20 a21 a22 : Nat) (sz : Nat) : Met l yX12_body (wsG yX12_body cX12_body 3 (some .int)) ({ frames := 1, cells := 0, slots := 0, locals := 21 }) (va_Pc [.ref a0] (g5_P G [(a0, .inr (12, [.int 0, .int 0, .ref a1, .ref a2, .ref a3, .ref a4, .int 0, .ref a5, .int 0, .int 0, .int 0, .int 0, .long 0, .int (-1), .int 0, .int 0, .ref a6, .int 0, .ref a7, .ref a8, .int 0, .ref a9, .ref a10, .int 0, .int 0, .ref a11, .ref a12, .int 0, .ref a13, .ref a14, .int 0, .long 0, .long 0, .int 0, .int 0, .int 0, .int 0, .int 0, .ref a15, .int 0, .int 0, .ref a16, .int 0, .ref a17, .ref a18, .ref a19, .int 0, .ref a20, .ref a21, .long 0, .ref a22, .int 0])), (a2, .inl (G.2 0, 5740, .inl (upd (upd (upd (fun _ => 0) 3 (-1)) 4 1000) 6 (-1))))] sz)) (va_Qi (fun (r : Int32) (u : va_W) => r.toInt = sp_body ∧ u = []) (g5_B G (va_A [(a0, .inr (12, [.int 0, .int 0, .ref a1, .ref a2, .ref a3, .ref a4, .int 0, .ref a5, .int 0, .int 0, .int 0, .int 0, .long 0, .int (-1), .int 0, .int 0, .ref a6, .int 0, .ref a7, .ref a8, .int 0, .ref a9, .ref a10, .int 0, .int 0, .ref a11, .ref a12, .int 0, .ref a13, .ref a14, .int 0, .long 0, .long 0, .int 0, .int 0, .int 0, .int 0, .int 0, .ref a15, .int 0, .int 0, .ref a16, .int 0, .ref a17, .ref a18, .ref a19, .int 0, .ref a20, .ref a21, .long 0, .ref a22, .int 0])), (a2, .inl (G.2 0, 5740, .inl (upd (upd (upd (fun _ => 0) 3 (-1)) 4 1000) 6 (-1))))] sz)) (va_A [(a0, .inr (12, [.int 0, .int 0, .ref a1, .ref a2, .ref a3, .ref a4, .int 0, .ref a5, .int 0, .int 0, .int 0, .int 0, .long 0, .int (-1), .int 0, .int 0, .ref a6, .int 0, .ref a7, .ref a8, .int 0, .ref a9, .ref a10, .int 0, .int 0, .ref a11, .ref a12, .int 0, .ref a13, .ref a14, .int 0, .long 0, .long 0, .int 0, .int 0, .int 0, .int 0, .int 0, .ref a15, .int 0, .int 0, .ref a16, .int 0, .ref a17, .ref a18, .ref a19, .int 0, .ref a20, .ref a21, .long 0, .ref a22, .int 0])), (a2, .inl (G.2 0, 5740, .inl (upd (upd (upd (fun _ => 0) 3 (-1)) 4 1000) 6 (-1))))] sz)) 0 0 (va_A [(a0, .inr (12, [.int 0, .int 0, .ref a1, .ref a2, .ref a3, .ref a4, .int 0, .ref a5, .int 0, .int 0, .int 0, .int 0, .long 0, .int (-1), .int 0, .int 0, .ref a6, .int 0, .ref a7, .ref a8, .int 0, .ref a9, .ref a10, .int 0, .int 0, .ref a11, .ref a12, .int 0, .ref a13, .ref a14, .int 0, .long 0, .long 0, .int 0, .int 0, .int 0, .int 0, .int 0, .ref a15, .int 0, .int 0, .ref a16, .int 0, .ref a17, .ref a18, .ref a19, .int 0, .ref a20, .ref a21, .long 0, .ref a22, .int 0])), (a2, .inl (G.2 0, 5740, .inl (upd (upd (upd (fun _ => 0) 3 (-1)) 4 1000) 6 (-1))))] sz) := by
  refine g5_wkI (kX12_body l G a0 a1 a2 a3 a4 a5 a6 a7 a8 a9 a10 a11 a12 a13 a14 a15 a16 a17 a18 a19 a20 a21 a22 sz) (fun r u h => ?_)
  obtain ⟨hr, hu⟩ := h
  refine ⟨?_, hu⟩
  rw [hr]
  rw [show (0 : Int32).toInt = 0 from by decide]
  unfold sp_body; omega
set_option maxHeartbeats 4000000 in
set_option maxRecDepth 100000 in
theorem sM_stay (l : Launch) (G : g5_G) (a0 a1 a2 a3 a4 a5 a6 a7 a8 a9 a10 a11 a12 a13 a14 a15 a16 a17 a18 a19 a20 a21 a22 : Nat) (sz : Nat) (n0 : Int32) (n1 : Int32) (n2 : Int32) (n3 : Int32) : Met l yX12_stay (wsG yX12_stay cX12_stay 5 (some .int)) ({ frames := 2, cells := 0, slots := 0, locals := 46 }) (va_Pc [.ref a0, .int n0, .int n1, .int n2, .int n3] (g5_P G [(a0, .inr (12, [.int 0, .int 0, .ref a1, .ref a2, .ref a3, .ref a4, .int 0, .ref a5, .int 0, .int 0, .int 0, .int 0, .long 0, .int (-1), .int 0, .int 0, .ref a6, .int 0, .ref a7, .ref a8, .int 0, .ref a9, .ref a10, .int 0, .int 0, .ref a11, .ref a12, .int 0, .ref a13, .ref a14, .int 0, .long 0, .long 0, .int 0, .int 0, .int 0, .int 0, .int 0, .ref a15, .int 0, .int 0, .ref a16, .int 0, .ref a17, .ref a18, .ref a19, .int 0, .ref a20, .ref a21, .long 0, .ref a22, .int 0])), (a1, .inl (G.2 0, 7, .inl (fun _ => 0))), (a2, .inl (G.2 0, 5740, .inl (upd (upd (upd (fun _ => 0) 3 (-1)) 4 1000) 6 (-1))))] sz)) (va_Qi (fun (r : Int32) (u : va_W) => r.toInt = sp_stay n0.toInt n1.toInt n2.toInt n3.toInt ∧ u = []) (g5_B G (va_A [(a0, .inr (12, [.int 0, .int 0, .ref a1, .ref a2, .ref a3, .ref a4, .int 0, .ref a5, .int 0, .int 0, .int 0, .int 0, .long 0, .int (-1), .int 0, .int 0, .ref a6, .int 0, .ref a7, .ref a8, .int 0, .ref a9, .ref a10, .int 0, .int 0, .ref a11, .ref a12, .int 0, .ref a13, .ref a14, .int 0, .long 0, .long 0, .int 0, .int 0, .int 0, .int 0, .int 0, .ref a15, .int 0, .int 0, .ref a16, .int 0, .ref a17, .ref a18, .ref a19, .int 0, .ref a20, .ref a21, .long 0, .ref a22, .int 0])), (a1, .inl (G.2 0, 7, .inl (fun _ => 0))), (a2, .inl (G.2 0, 5740, .inl (upd (upd (upd (fun _ => 0) 3 (-1)) 4 1000) 6 (-1))))] sz)) (va_A [(a0, .inr (12, [.int 0, .int 0, .ref a1, .ref a2, .ref a3, .ref a4, .int 0, .ref a5, .int 0, .int 0, .int 0, .int 0, .long 0, .int (-1), .int 0, .int 0, .ref a6, .int 0, .ref a7, .ref a8, .int 0, .ref a9, .ref a10, .int 0, .int 0, .ref a11, .ref a12, .int 0, .ref a13, .ref a14, .int 0, .long 0, .long 0, .int 0, .int 0, .int 0, .int 0, .int 0, .ref a15, .int 0, .int 0, .ref a16, .int 0, .ref a17, .ref a18, .ref a19, .int 0, .ref a20, .ref a21, .long 0, .ref a22, .int 0])), (a1, .inl (G.2 0, 7, .inl (fun _ => 0))), (a2, .inl (G.2 0, 5740, .inl (upd (upd (upd (fun _ => 0) 3 (-1)) 4 1000) 6 (-1))))] sz)) 0 0 (va_A [(a0, .inr (12, [.int 0, .int 0, .ref a1, .ref a2, .ref a3, .ref a4, .int 0, .ref a5, .int 0, .int 0, .int 0, .int 0, .long 0, .int (-1), .int 0, .int 0, .ref a6, .int 0, .ref a7, .ref a8, .int 0, .ref a9, .ref a10, .int 0, .int 0, .ref a11, .ref a12, .int 0, .ref a13, .ref a14, .int 0, .long 0, .long 0, .int 0, .int 0, .int 0, .int 0, .int 0, .ref a15, .int 0, .int 0, .ref a16, .int 0, .ref a17, .ref a18, .ref a19, .int 0, .ref a20, .ref a21, .long 0, .ref a22, .int 0])), (a1, .inl (G.2 0, 7, .inl (fun _ => 0))), (a2, .inl (G.2 0, 5740, .inl (upd (upd (upd (fun _ => 0) 3 (-1)) 4 1000) 6 (-1))))] sz) := by
  refine g5_wkI (kX12_stay l G a0 a1 a2 a3 a4 a5 a6 a7 a8 a9 a10 a11 a12 a13 a14 a15 a16 a17 a18 a19 a20 a21 a22 sz n0 n1 n2 n3) (fun r u h => ?_)
  rcases h with ⟨i0, hr, hu⟩ | ⟨i1, i2, hr, hu⟩ | ⟨i3, i4, i5, hr, hu⟩ | ⟨i6, i7, i8, i9, hr, hu⟩ | ⟨i10, i11, i12, i13, i14, hr, hu⟩
  · refine ⟨?_, hu⟩
    rw [hr]
    rw [show ((-1) : Int32).toInt = (-1) from by decide]
    unfold sp_stay; omega
  · refine ⟨?_, hu⟩
    rw [hr]
    rw [show ((-1) : Int32).toInt = (-1) from by decide]
    unfold sp_stay; omega
  · refine ⟨?_, hu⟩
    rw [hr]
    rw [show ((-1) : Int32).toInt = (-1) from by decide]
    unfold sp_stay; omega
  · refine ⟨?_, hu⟩
    rw [hr]
    rw [show ((-1) : Int32).toInt = (-1) from by decide]
    unfold sp_stay; omega
  · refine ⟨?_, hu⟩
    rw [hr]
    rw [show ((-2) : Int32).toInt = (-2) from by decide]
    unfold sp_stay; omega
set_option maxHeartbeats 4000000 in
set_option maxRecDepth 100000 in
theorem sM_where (l : Launch) (G : g5_G) (a0 a1 a2 a3 a4 a5 a6 a7 a8 a9 a10 a11 a12 a13 a14 a15 a16 a17 a18 a19 a20 a21 a22 : Nat) (sz : Nat) (n0 : Int32) (n1 : Int32) : Met l yX12_where (wsG yX12_where cX12_where 3 (some .int)) ({ frames := 2, cells := 0, slots := 0, locals := 46 }) (va_Pc [.ref a0, .int n0, .int n1] (g5_P G [(a0, .inr (12, [.int 0, .int 0, .ref a1, .ref a2, .ref a3, .ref a4, .int 0, .ref a5, .int 0, .int 0, .int 0, .int 0, .long 0, .int (-1), .int 0, .int 0, .ref a6, .int 0, .ref a7, .ref a8, .int 0, .ref a9, .ref a10, .int 0, .int 0, .ref a11, .ref a12, .int 0, .ref a13, .ref a14, .int 0, .long 0, .long 0, .int 0, .int 0, .int 0, .int 0, .int 0, .ref a15, .int 0, .int 0, .ref a16, .int 0, .ref a17, .ref a18, .ref a19, .int 0, .ref a20, .ref a21, .long 0, .ref a22, .int 0])), (a2, .inl (G.2 0, 5740, .inl (upd (upd (upd (fun _ => 0) 3 (-1)) 4 1000) 6 (-1))))] sz)) (va_Qi (fun (r : Int32) (u : va_W) => r.toInt = sp_where n0.toInt n1.toInt ∧ u = []) (g5_B G (va_A [(a0, .inr (12, [.int 0, .int 0, .ref a1, .ref a2, .ref a3, .ref a4, .int 0, .ref a5, .int 0, .int 0, .int 0, .int 0, .long 0, .int (-1), .int 0, .int 0, .ref a6, .int 0, .ref a7, .ref a8, .int 0, .ref a9, .ref a10, .int 0, .int 0, .ref a11, .ref a12, .int 0, .ref a13, .ref a14, .int 0, .long 0, .long 0, .int 0, .int 0, .int 0, .int 0, .int 0, .ref a15, .int 0, .int 0, .ref a16, .int 0, .ref a17, .ref a18, .ref a19, .int 0, .ref a20, .ref a21, .long 0, .ref a22, .int 0])), (a2, .inl (G.2 0, 5740, .inl (upd (upd (upd (fun _ => 0) 3 (-1)) 4 1000) 6 (-1))))] sz)) (va_A [(a0, .inr (12, [.int 0, .int 0, .ref a1, .ref a2, .ref a3, .ref a4, .int 0, .ref a5, .int 0, .int 0, .int 0, .int 0, .long 0, .int (-1), .int 0, .int 0, .ref a6, .int 0, .ref a7, .ref a8, .int 0, .ref a9, .ref a10, .int 0, .int 0, .ref a11, .ref a12, .int 0, .ref a13, .ref a14, .int 0, .long 0, .long 0, .int 0, .int 0, .int 0, .int 0, .int 0, .ref a15, .int 0, .int 0, .ref a16, .int 0, .ref a17, .ref a18, .ref a19, .int 0, .ref a20, .ref a21, .long 0, .ref a22, .int 0])), (a2, .inl (G.2 0, 5740, .inl (upd (upd (upd (fun _ => 0) 3 (-1)) 4 1000) 6 (-1))))] sz)) 0 0 (va_A [(a0, .inr (12, [.int 0, .int 0, .ref a1, .ref a2, .ref a3, .ref a4, .int 0, .ref a5, .int 0, .int 0, .int 0, .int 0, .long 0, .int (-1), .int 0, .int 0, .ref a6, .int 0, .ref a7, .ref a8, .int 0, .ref a9, .ref a10, .int 0, .int 0, .ref a11, .ref a12, .int 0, .ref a13, .ref a14, .int 0, .long 0, .long 0, .int 0, .int 0, .int 0, .int 0, .int 0, .ref a15, .int 0, .int 0, .ref a16, .int 0, .ref a17, .ref a18, .ref a19, .int 0, .ref a20, .ref a21, .long 0, .ref a22, .int 0])), (a2, .inl (G.2 0, 5740, .inl (upd (upd (upd (fun _ => 0) 3 (-1)) 4 1000) 6 (-1))))] sz) := by
  refine g5_wkI (kX12_where l G a0 a1 a2 a3 a4 a5 a6 a7 a8 a9 a10 a11 a12 a13 a14 a15 a16 a17 a18 a19 a20 a21 a22 sz n0 n1) (fun r u h => ?_)
  obtain ⟨i0, hr, hu⟩ := h
  refine ⟨?_, hu⟩
  rw [hr]
  rw [show ((-1) : Int32).toInt = (-1) from by decide]
  unfold sp_where; omega
set_option maxHeartbeats 4000000 in
set_option maxRecDepth 100000 in
theorem sM_least (l : Launch) (G : g5_G) (a0 a1 a2 a3 a4 a5 a6 a7 a8 a9 a10 a11 a12 a13 a14 a15 a16 a17 a18 a19 a20 a21 a22 : Nat) (sz : Nat) (n0 : Int32) : Met l yX12_least (wsG yX12_least cX12_least 2 (some .int)) ({ frames := 2, cells := 0, slots := 0, locals := 44 }) (va_Pc [.ref a0, .int n0] (g5_P G [(a0, .inr (12, [.int 0, .int 0, .ref a1, .ref a2, .ref a3, .ref a4, .int 0, .ref a5, .int 0, .int 0, .int 0, .int 0, .long 0, .int (-1), .int 0, .int 0, .ref a6, .int 0, .ref a7, .ref a8, .int 0, .ref a9, .ref a10, .int 0, .int 0, .ref a11, .ref a12, .int 0, .ref a13, .ref a14, .int 0, .long 0, .long 0, .int 0, .int 0, .int 0, .int 0, .int 0, .ref a15, .int 0, .int 0, .ref a16, .int 0, .ref a17, .ref a18, .ref a19, .int 0, .ref a20, .ref a21, .long 0, .ref a22, .int 0])), (a1, .inl (G.2 0, 7, .inl (fun _ => 0))), (a2, .inl (G.2 0, 5740, .inl (upd (upd (upd (fun _ => 0) 3 (-1)) 4 1000) 6 (-1))))] sz)) (va_Qi (fun (r : Int32) (u : va_W) => r.toInt = sp_least n0.toInt ∧ u = []) (g5_B G (va_A [(a0, .inr (12, [.int 0, .int 0, .ref a1, .ref a2, .ref a3, .ref a4, .int 0, .ref a5, .int 0, .int 0, .int 0, .int 0, .long 0, .int (-1), .int 0, .int 0, .ref a6, .int 0, .ref a7, .ref a8, .int 0, .ref a9, .ref a10, .int 0, .int 0, .ref a11, .ref a12, .int 0, .ref a13, .ref a14, .int 0, .long 0, .long 0, .int 0, .int 0, .int 0, .int 0, .int 0, .ref a15, .int 0, .int 0, .ref a16, .int 0, .ref a17, .ref a18, .ref a19, .int 0, .ref a20, .ref a21, .long 0, .ref a22, .int 0])), (a1, .inl (G.2 0, 7, .inl (fun _ => 0))), (a2, .inl (G.2 0, 5740, .inl (upd (upd (upd (fun _ => 0) 3 (-1)) 4 1000) 6 (-1))))] sz)) (va_A [(a0, .inr (12, [.int 0, .int 0, .ref a1, .ref a2, .ref a3, .ref a4, .int 0, .ref a5, .int 0, .int 0, .int 0, .int 0, .long 0, .int (-1), .int 0, .int 0, .ref a6, .int 0, .ref a7, .ref a8, .int 0, .ref a9, .ref a10, .int 0, .int 0, .ref a11, .ref a12, .int 0, .ref a13, .ref a14, .int 0, .long 0, .long 0, .int 0, .int 0, .int 0, .int 0, .int 0, .ref a15, .int 0, .int 0, .ref a16, .int 0, .ref a17, .ref a18, .ref a19, .int 0, .ref a20, .ref a21, .long 0, .ref a22, .int 0])), (a1, .inl (G.2 0, 7, .inl (fun _ => 0))), (a2, .inl (G.2 0, 5740, .inl (upd (upd (upd (fun _ => 0) 3 (-1)) 4 1000) 6 (-1))))] sz)) 0 0 (va_A [(a0, .inr (12, [.int 0, .int 0, .ref a1, .ref a2, .ref a3, .ref a4, .int 0, .ref a5, .int 0, .int 0, .int 0, .int 0, .long 0, .int (-1), .int 0, .int 0, .ref a6, .int 0, .ref a7, .ref a8, .int 0, .ref a9, .ref a10, .int 0, .int 0, .ref a11, .ref a12, .int 0, .ref a13, .ref a14, .int 0, .long 0, .long 0, .int 0, .int 0, .int 0, .int 0, .int 0, .ref a15, .int 0, .int 0, .ref a16, .int 0, .ref a17, .ref a18, .ref a19, .int 0, .ref a20, .ref a21, .long 0, .ref a22, .int 0])), (a1, .inl (G.2 0, 7, .inl (fun _ => 0))), (a2, .inl (G.2 0, 5740, .inl (upd (upd (upd (fun _ => 0) 3 (-1)) 4 1000) 6 (-1))))] sz) := by
  refine g5_wkI (kX12_least l G a0 a1 a2 a3 a4 a5 a6 a7 a8 a9 a10 a11 a12 a13 a14 a15 a16 a17 a18 a19 a20 a21 a22 sz n0) (fun r u h => ?_)
  rcases h with ⟨i0, hr, hu⟩ | ⟨i1, hr, hu⟩
  · refine ⟨?_, hu⟩
    rw [hr]
    rw [show ((-1) : Int32).toInt = (-1) from by decide]
    unfold sp_least; omega
  · refine ⟨?_, hu⟩
    rw [hr]
    rw [show (1000 : Int32).toInt = 1000 from by decide]
    unfold sp_least; omega
set_option maxHeartbeats 4000000 in
set_option maxRecDepth 100000 in
theorem sM_feed (l : Launch) (G : g5_G) (a0 a1 a2 a3 a4 a5 a6 a7 a8 a9 a10 a11 a12 a13 a14 a15 a16 a17 a18 a19 a20 a21 a22 : Nat) (sz : Nat) (n0 : Int32) (n1 : Int32) (n2 : Int32) (n3 : Int32) (n4 : Int32) : Met l yX12_feed (wsG yX12_feed cX12_feed 6 (some .int)) ({ frames := 1, cells := 0, slots := 0, locals := 22 }) (va_Pc [.ref a0, .int n0, .int n1, .int n2, .int n3, .int n4] (g5_P G [(a0, .inr (12, [.int 0, .int 0, .ref a1, .ref a2, .ref a3, .ref a4, .int 0, .ref a5, .int 0, .int 0, .int 0, .int 0, .long 0, .int (-1), .int 0, .int 0, .ref a6, .int 0, .ref a7, .ref a8, .int 0, .ref a9, .ref a10, .int 0, .int 0, .ref a11, .ref a12, .int 0, .ref a13, .ref a14, .int 0, .long 0, .long 0, .int 0, .int 0, .int 0, .int 0, .int 0, .ref a15, .int 0, .int 0, .ref a16, .int 0, .ref a17, .ref a18, .ref a19, .int 0, .ref a20, .ref a21, .long 0, .ref a22, .int 0])), (a5, .inl (G.2 0, 400, .inl (fun _ => 0)))] sz)) (va_Qi (fun (r : Int32) (u : va_W) => r.toInt = sp_feed n0.toInt n1.toInt n2.toInt n3.toInt n4.toInt ∧ u = []) (g5_B G (va_A [(a0, .inr (12, [.int 0, .int 0, .ref a1, .ref a2, .ref a3, .ref a4, .int 0, .ref a5, .int 0, .int 0, .int 0, .int 0, .long 0, .int (-1), .int 0, .int 0, .ref a6, .int 0, .ref a7, .ref a8, .int 0, .ref a9, .ref a10, .int 0, .int 0, .ref a11, .ref a12, .int 0, .ref a13, .ref a14, .int 0, .long 0, .long 0, .int 0, .int 0, .int 0, .int 0, .int 0, .ref a15, .int 0, .int 0, .ref a16, .int 0, .ref a17, .ref a18, .ref a19, .int 0, .ref a20, .ref a21, .long 0, .ref a22, .int 0])), (a5, .inl (G.2 0, 400, .inl (fun _ => 0)))] sz)) (va_A [(a0, .inr (12, [.int 0, .int 0, .ref a1, .ref a2, .ref a3, .ref a4, .int 0, .ref a5, .int 0, .int 0, .int 0, .int 0, .long 0, .int (-1), .int 0, .int 0, .ref a6, .int 0, .ref a7, .ref a8, .int 0, .ref a9, .ref a10, .int 0, .int 0, .ref a11, .ref a12, .int 0, .ref a13, .ref a14, .int 0, .long 0, .long 0, .int 0, .int 0, .int 0, .int 0, .int 0, .ref a15, .int 0, .int 0, .ref a16, .int 0, .ref a17, .ref a18, .ref a19, .int 0, .ref a20, .ref a21, .long 0, .ref a22, .int 0])), (a5, .inl (G.2 0, 400, .inl (fun _ => 0)))] sz)) 0 0 (va_A [(a0, .inr (12, [.int 0, .int 0, .ref a1, .ref a2, .ref a3, .ref a4, .int 0, .ref a5, .int 0, .int 0, .int 0, .int 0, .long 0, .int (-1), .int 0, .int 0, .ref a6, .int 0, .ref a7, .ref a8, .int 0, .ref a9, .ref a10, .int 0, .int 0, .ref a11, .ref a12, .int 0, .ref a13, .ref a14, .int 0, .long 0, .long 0, .int 0, .int 0, .int 0, .int 0, .int 0, .ref a15, .int 0, .int 0, .ref a16, .int 0, .ref a17, .ref a18, .ref a19, .int 0, .ref a20, .ref a21, .long 0, .ref a22, .int 0])), (a5, .inl (G.2 0, 400, .inl (fun _ => 0)))] sz) := by
  refine g5_wkI (kX12_feed l G a0 a1 a2 a3 a4 a5 a6 a7 a8 a9 a10 a11 a12 a13 a14 a15 a16 a17 a18 a19 a20 a21 a22 sz n0 n1 n2 n3 n4) (fun r u h => ?_)
  obtain ⟨hr, hu⟩ := h
  refine ⟨?_, hu⟩
  rw [hr]
  rw [show (20 : Int32).toInt = 20 from by decide]
  unfold sp_feed; omega
set_option maxHeartbeats 4000000 in
set_option maxRecDepth 100000 in
theorem sM_end (l : Launch) (G : g5_G) (a0 a1 a2 a3 a4 a5 a6 a7 a8 a9 a10 a11 a12 a13 a14 a15 a16 a17 a18 a19 a20 a21 a22 : Nat) (sz : Nat) (n0 : Int32) : Met l yX12_end (wsG yX12_end cX12_end 2 (some .int)) ({ frames := 0, cells := 0, slots := 0, locals := 0 }) (va_Pc [.ref a0, .int n0] (g5_P G [(a0, .inr (12, [.int 0, .int 0, .ref a1, .ref a2, .ref a3, .ref a4, .int 0, .ref a5, .int 0, .int 0, .int 0, .int 0, .long 0, .int (-1), .int 0, .int 0, .ref a6, .int 0, .ref a7, .ref a8, .int 0, .ref a9, .ref a10, .int 0, .int 0, .ref a11, .ref a12, .int 0, .ref a13, .ref a14, .int 0, .long 0, .long 0, .int 0, .int 0, .int 0, .int 0, .int 0, .ref a15, .int 0, .int 0, .ref a16, .int 0, .ref a17, .ref a18, .ref a19, .int 0, .ref a20, .ref a21, .long 0, .ref a22, .int 0]))] sz)) (va_Qi (fun (r : Int32) (u : va_W) => r.toInt = sp_end n0.toInt ∧ u = []) (g5_B G (va_A [(a0, .inr (12, [.int 0, .int 0, .ref a1, .ref a2, .ref a3, .ref a4, .int 0, .ref a5, .int 0, .int 0, .int 0, .int 0, .long 0, .int (-1), .int 0, .int 0, .ref a6, .int 0, .ref a7, .ref a8, .int 0, .ref a9, .ref a10, .int 0, .int 0, .ref a11, .ref a12, .int 0, .ref a13, .ref a14, .int 0, .long 0, .long 0, .int 0, .int 0, .int 0, .int 0, .int 0, .ref a15, .int 0, .int 0, .ref a16, .int 0, .ref a17, .ref a18, .ref a19, .int 0, .ref a20, .ref a21, .long 0, .ref a22, .int 0]))] sz)) (va_A [(a0, .inr (12, [.int 0, .int 0, .ref a1, .ref a2, .ref a3, .ref a4, .int 0, .ref a5, .int 0, .int 0, .int 0, .int 0, .long 0, .int (-1), .int 0, .int 0, .ref a6, .int 0, .ref a7, .ref a8, .int 0, .ref a9, .ref a10, .int 0, .int 0, .ref a11, .ref a12, .int 0, .ref a13, .ref a14, .int 0, .long 0, .long 0, .int 0, .int 0, .int 0, .int 0, .int 0, .ref a15, .int 0, .int 0, .ref a16, .int 0, .ref a17, .ref a18, .ref a19, .int 0, .ref a20, .ref a21, .long 0, .ref a22, .int 0]))] sz)) 0 0 (va_A [(a0, .inr (12, [.int 0, .int 0, .ref a1, .ref a2, .ref a3, .ref a4, .int 0, .ref a5, .int 0, .int 0, .int 0, .int 0, .long 0, .int (-1), .int 0, .int 0, .ref a6, .int 0, .ref a7, .ref a8, .int 0, .ref a9, .ref a10, .int 0, .int 0, .ref a11, .ref a12, .int 0, .ref a13, .ref a14, .int 0, .long 0, .long 0, .int 0, .int 0, .int 0, .int 0, .int 0, .ref a15, .int 0, .int 0, .ref a16, .int 0, .ref a17, .ref a18, .ref a19, .int 0, .ref a20, .ref a21, .long 0, .ref a22, .int 0]))] sz) := by
  refine g5_wkI (kX12_end l G a0 a1 a2 a3 a4 a5 a6 a7 a8 a9 a10 a11 a12 a13 a14 a15 a16 a17 a18 a19 a20 a21 a22 sz n0) (fun r u h => ?_)
  rcases h with ⟨i0, hr, hu⟩ | ⟨i1, i2, hr, hu⟩ | ⟨i3, i4, hr, hu⟩
  · refine ⟨?_, hu⟩
    rw [hr]
    rw [show ((-1) : Int32).toInt = (-1) from by decide]
    unfold sp_end; omega
  · refine ⟨?_, hu⟩
    rw [hr]
    unfold sp_end; omega
  · refine ⟨?_, hu⟩
    rw [hr]
    rw [show ((-1) : Int32).toInt = (-1) from by decide]
    unfold sp_end; omega
set_option maxHeartbeats 4000000 in
set_option maxRecDepth 100000 in
theorem sM_row (l : Launch) (G : g5_G) (a0 a1 a2 a3 a4 a5 a6 a7 a8 a9 a10 a11 a12 a13 a14 a15 a16 a17 a18 a19 a20 a21 a22 : Nat) (sz : Nat) : Met l yX12_row (wsG yX12_row cX12_row 5 (some .int)) ({ frames := 1, cells := 0, slots := 0, locals := 21 }) (va_Pc [.ref a0] (g5_P G [(a0, .inr (12, [.int 0, .int 0, .ref a1, .ref a2, .ref a3, .ref a4, .int 0, .ref a5, .int 0, .int 0, .int 0, .int 0, .long 0, .int (-1), .int 0, .int 0, .ref a6, .int 0, .ref a7, .ref a8, .int 0, .ref a9, .ref a10, .int 0, .int 0, .ref a11, .ref a12, .int 0, .ref a13, .ref a14, .int 0, .long 0, .long 0, .int 0, .int 0, .int 0, .int 0, .int 0, .ref a15, .int 0, .int 0, .ref a16, .int 0, .ref a17, .ref a18, .ref a19, .int 0, .ref a20, .ref a21, .long 0, .ref a22, .int 0])), (a1, .inl (G.2 0, 7, .inl (fun _ => 0)))] sz)) (va_Qi (fun (r : Int32) (u : va_W) => r.toInt = sp_row ∧ u = []) (g5_B G (va_A [(a0, .inr (12, [.int 0, .int 0, .ref a1, .ref a2, .ref a3, .ref a4, .int 0, .ref a5, .int 0, .int 0, .int 0, .int 0, .long 0, .int (-1), .int 0, .int 0, .ref a6, .int 0, .ref a7, .ref a8, .int 0, .ref a9, .ref a10, .int 0, .int 0, .ref a11, .ref a12, .int 0, .ref a13, .ref a14, .int 0, .long 0, .long 0, .int 0, .int 0, .int 0, .int 0, .int 0, .ref a15, .int 0, .int 0, .ref a16, .int 0, .ref a17, .ref a18, .ref a19, .int 0, .ref a20, .ref a21, .long 0, .ref a22, .int 0])), (a1, .inl (G.2 0, 7, .inl (fun _ => 0)))] sz)) (va_A [(a0, .inr (12, [.int 0, .int 0, .ref a1, .ref a2, .ref a3, .ref a4, .int 0, .ref a5, .int 0, .int 0, .int 0, .int 0, .long 0, .int (-1), .int 0, .int 0, .ref a6, .int 0, .ref a7, .ref a8, .int 0, .ref a9, .ref a10, .int 0, .int 0, .ref a11, .ref a12, .int 0, .ref a13, .ref a14, .int 0, .long 0, .long 0, .int 0, .int 0, .int 0, .int 0, .int 0, .ref a15, .int 0, .int 0, .ref a16, .int 0, .ref a17, .ref a18, .ref a19, .int 0, .ref a20, .ref a21, .long 0, .ref a22, .int 0])), (a1, .inl (G.2 0, 7, .inl (fun _ => 0)))] sz)) 0 0 (va_A [(a0, .inr (12, [.int 0, .int 0, .ref a1, .ref a2, .ref a3, .ref a4, .int 0, .ref a5, .int 0, .int 0, .int 0, .int 0, .long 0, .int (-1), .int 0, .int 0, .ref a6, .int 0, .ref a7, .ref a8, .int 0, .ref a9, .ref a10, .int 0, .int 0, .ref a11, .ref a12, .int 0, .ref a13, .ref a14, .int 0, .long 0, .long 0, .int 0, .int 0, .int 0, .int 0, .int 0, .ref a15, .int 0, .int 0, .ref a16, .int 0, .ref a17, .ref a18, .ref a19, .int 0, .ref a20, .ref a21, .long 0, .ref a22, .int 0])), (a1, .inl (G.2 0, 7, .inl (fun _ => 0)))] sz) := by
  refine g5_wkI (kX12_row l G a0 a1 a2 a3 a4 a5 a6 a7 a8 a9 a10 a11 a12 a13 a14 a15 a16 a17 a18 a19 a20 a21 a22 sz) (fun r u h => ?_)
  obtain ⟨hr, hu⟩ := h
  refine ⟨?_, hu⟩
  rw [hr]
  rw [show ((-6) : Int32).toInt = (-6) from by decide]
  unfold sp_row; omega
set_option maxHeartbeats 4000000 in
set_option maxRecDepth 100000 in
theorem sM_faded (l : Launch) (G : g5_G) (a0 a1 a2 a3 a4 a5 a6 a7 a8 a9 a10 a11 a12 a13 a14 a15 a16 a17 a18 a19 a20 a21 a22 : Nat) (sz : Nat) : Met l yX12_faded (wsG yX12_faded cX12_faded 1 (some .int)) ({ frames := 0, cells := 0, slots := 0, locals := 0 }) (va_Pc [.ref a0] (g5_P G [(a0, .inr (12, [.int 0, .int 0, .ref a1, .ref a2, .ref a3, .ref a4, .int 0, .ref a5, .int 0, .int 0, .int 0, .int 0, .long 0, .int (-1), .int 0, .int 0, .ref a6, .int 0, .ref a7, .ref a8, .int 0, .ref a9, .ref a10, .int 0, .int 0, .ref a11, .ref a12, .int 0, .ref a13, .ref a14, .int 0, .long 0, .long 0, .int 0, .int 0, .int 0, .int 0, .int 0, .ref a15, .int 0, .int 0, .ref a16, .int 0, .ref a17, .ref a18, .ref a19, .int 0, .ref a20, .ref a21, .long 0, .ref a22, .int 0]))] sz)) (va_Qi (fun (r : Int32) (u : va_W) => r.toInt = sp_faded ∧ u = []) (g5_B G (va_A [(a0, .inr (12, [.int 0, .int 0, .ref a1, .ref a2, .ref a3, .ref a4, .int 0, .ref a5, .int 0, .int 0, .int 0, .int 0, .long 0, .int (-1), .int 0, .int 0, .ref a6, .int 0, .ref a7, .ref a8, .int 0, .ref a9, .ref a10, .int 0, .int 0, .ref a11, .ref a12, .int 0, .ref a13, .ref a14, .int 0, .long 0, .long 0, .int 0, .int 0, .int 0, .int 0, .int 0, .ref a15, .int 0, .int 0, .ref a16, .int 0, .ref a17, .ref a18, .ref a19, .int 0, .ref a20, .ref a21, .long 0, .ref a22, .int 0]))] sz)) (va_A [(a0, .inr (12, [.int 0, .int 0, .ref a1, .ref a2, .ref a3, .ref a4, .int 0, .ref a5, .int 0, .int 0, .int 0, .int 0, .long 0, .int (-1), .int 0, .int 0, .ref a6, .int 0, .ref a7, .ref a8, .int 0, .ref a9, .ref a10, .int 0, .int 0, .ref a11, .ref a12, .int 0, .ref a13, .ref a14, .int 0, .long 0, .long 0, .int 0, .int 0, .int 0, .int 0, .int 0, .ref a15, .int 0, .int 0, .ref a16, .int 0, .ref a17, .ref a18, .ref a19, .int 0, .ref a20, .ref a21, .long 0, .ref a22, .int 0]))] sz)) 0 0 (va_A [(a0, .inr (12, [.int 0, .int 0, .ref a1, .ref a2, .ref a3, .ref a4, .int 0, .ref a5, .int 0, .int 0, .int 0, .int 0, .long 0, .int (-1), .int 0, .int 0, .ref a6, .int 0, .ref a7, .ref a8, .int 0, .ref a9, .ref a10, .int 0, .int 0, .ref a11, .ref a12, .int 0, .ref a13, .ref a14, .int 0, .long 0, .long 0, .int 0, .int 0, .int 0, .int 0, .int 0, .ref a15, .int 0, .int 0, .ref a16, .int 0, .ref a17, .ref a18, .ref a19, .int 0, .ref a20, .ref a21, .long 0, .ref a22, .int 0]))] sz) := by
  refine g5_wkI (kX12_faded l G a0 a1 a2 a3 a4 a5 a6 a7 a8 a9 a10 a11 a12 a13 a14 a15 a16 a17 a18 a19 a20 a21 a22 sz) (fun r u h => ?_)
  obtain ⟨hr, hu⟩ := h
  refine ⟨?_, hu⟩
  rw [hr]
  rw [show (0 : Int32).toInt = 0 from by decide]
  unfold sp_faded; omega
set_option maxHeartbeats 4000000 in
set_option maxRecDepth 100000 in
theorem sM_law (l : Launch) (G : g5_G) (a0 a1 a2 a3 a4 a5 a6 a7 a8 a9 a10 a11 a12 a13 a14 a15 a16 a17 a18 a19 a20 a21 a22 : Nat) (sz : Nat) : Met l yX12_law (wsG yX12_law cX12_law 3 (some .int)) ({ frames := 2, cells := 0, slots := 0, locals := 45 }) (va_Pc [.ref a0] (g5_P G [(a0, .inr (12, [.int 0, .int 0, .ref a1, .ref a2, .ref a3, .ref a4, .int 0, .ref a5, .int 0, .int 0, .int 0, .int 0, .long 0, .int (-1), .int 0, .int 0, .ref a6, .int 0, .ref a7, .ref a8, .int 0, .ref a9, .ref a10, .int 0, .int 0, .ref a11, .ref a12, .int 0, .ref a13, .ref a14, .int 0, .long 0, .long 0, .int 0, .int 0, .int 0, .int 0, .int 0, .ref a15, .int 0, .int 0, .ref a16, .int 0, .ref a17, .ref a18, .ref a19, .int 0, .ref a20, .ref a21, .long 0, .ref a22, .int 0])), (a2, .inl (G.2 0, 5740, .inl (upd (upd (upd (fun _ => 0) 3 (-1)) 4 1000) 6 (-1)))), (a12, .inl (G.2 1, 4, .inr (.inl (vp_updL (vp_updL (vp_updL (vp_updL (fun _ => 0) 0 394885) 1 153204) 2 117118547) 3 3544114)))), (a1, .inl (G.2 0, 7, .inl (fun _ => 0)))] sz)) (va_Qi (fun (r : Int32) (u : va_W) => r.toInt = sp_law ∧ u = []) (g5_B G (va_A [(a0, .inr (12, [.int 0, .int 0, .ref a1, .ref a2, .ref a3, .ref a4, .int 0, .ref a5, .int 0, .int 0, .int 0, .int 0, .long 0, .int (-1), .int 0, .int 0, .ref a6, .int 0, .ref a7, .ref a8, .int 0, .ref a9, .ref a10, .int 0, .int 0, .ref a11, .ref a12, .int 0, .ref a13, .ref a14, .int 0, .long 0, .long 0, .int 0, .int 0, .int 0, .int 0, .int 0, .ref a15, .int 0, .int 0, .ref a16, .int 0, .ref a17, .ref a18, .ref a19, .int 0, .ref a20, .ref a21, .long 0, .ref a22, .int 0])), (a2, .inl (G.2 0, 5740, .inl (upd (upd (upd (fun _ => 0) 3 (-1)) 4 1000) 6 (-1)))), (a12, .inl (G.2 1, 4, .inr (.inl (vp_updL (vp_updL (vp_updL (vp_updL (fun _ => 0) 0 394885) 1 153204) 2 117118547) 3 3544114)))), (a1, .inl (G.2 0, 7, .inl (fun _ => 0)))] sz)) (va_A [(a0, .inr (12, [.int 0, .int 0, .ref a1, .ref a2, .ref a3, .ref a4, .int 0, .ref a5, .int 0, .int 0, .int 0, .int 0, .long 0, .int (-1), .int 0, .int 0, .ref a6, .int 0, .ref a7, .ref a8, .int 0, .ref a9, .ref a10, .int 0, .int 0, .ref a11, .ref a12, .int 0, .ref a13, .ref a14, .int 0, .long 0, .long 0, .int 0, .int 0, .int 0, .int 0, .int 0, .ref a15, .int 0, .int 0, .ref a16, .int 0, .ref a17, .ref a18, .ref a19, .int 0, .ref a20, .ref a21, .long 0, .ref a22, .int 0])), (a2, .inl (G.2 0, 5740, .inl (upd (upd (upd (fun _ => 0) 3 (-1)) 4 1000) 6 (-1)))), (a12, .inl (G.2 1, 4, .inr (.inl (vp_updL (vp_updL (vp_updL (vp_updL (fun _ => 0) 0 394885) 1 153204) 2 117118547) 3 3544114)))), (a1, .inl (G.2 0, 7, .inl (fun _ => 0)))] sz)) 0 0 (va_A [(a0, .inr (12, [.int 0, .int 0, .ref a1, .ref a2, .ref a3, .ref a4, .int 0, .ref a5, .int 0, .int 0, .int 0, .int 0, .long 0, .int (-1), .int 0, .int 0, .ref a6, .int 0, .ref a7, .ref a8, .int 0, .ref a9, .ref a10, .int 0, .int 0, .ref a11, .ref a12, .int 0, .ref a13, .ref a14, .int 0, .long 0, .long 0, .int 0, .int 0, .int 0, .int 0, .int 0, .ref a15, .int 0, .int 0, .ref a16, .int 0, .ref a17, .ref a18, .ref a19, .int 0, .ref a20, .ref a21, .long 0, .ref a22, .int 0])), (a2, .inl (G.2 0, 5740, .inl (upd (upd (upd (fun _ => 0) 3 (-1)) 4 1000) 6 (-1)))), (a12, .inl (G.2 1, 4, .inr (.inl (vp_updL (vp_updL (vp_updL (vp_updL (fun _ => 0) 0 394885) 1 153204) 2 117118547) 3 3544114)))), (a1, .inl (G.2 0, 7, .inl (fun _ => 0)))] sz) := by
  refine g5_wkI (kX12_law l G a0 a1 a2 a3 a4 a5 a6 a7 a8 a9 a10 a11 a12 a13 a14 a15 a16 a17 a18 a19 a20 a21 a22 sz) (fun r u h => ?_)
  obtain ⟨hr, hu⟩ := h
  refine ⟨?_, hu⟩
  rw [hr]
  rw [show ((-6) : Int32).toInt = (-6) from by decide]
  unfold sp_law; omega
set_option maxHeartbeats 4000000 in
set_option maxRecDepth 100000 in
theorem sM_fault (l : Launch) (G : g5_G) (a0 a1 a2 a3 a4 a5 a6 a7 a8 a9 a10 a11 a12 a13 a14 a15 a16 a17 a18 a19 a20 a21 a22 : Nat) (sz : Nat) : Met l yX12_fault (wsG yX12_fault cX12_fault 1 (some .int)) ({ frames := 0, cells := 0, slots := 0, locals := 0 }) (va_Pc [.ref a0] (g5_P G [(a0, .inr (12, [.int 0, .int 0, .ref a1, .ref a2, .ref a3, .ref a4, .int 0, .ref a5, .int 0, .int 0, .int 0, .int 0, .long 0, .int (-1), .int 0, .int 0, .ref a6, .int 0, .ref a7, .ref a8, .int 0, .ref a9, .ref a10, .int 0, .int 0, .ref a11, .ref a12, .int 0, .ref a13, .ref a14, .int 0, .long 0, .long 0, .int 0, .int 0, .int 0, .int 0, .int 0, .ref a15, .int 0, .int 0, .ref a16, .int 0, .ref a17, .ref a18, .ref a19, .int 0, .ref a20, .ref a21, .long 0, .ref a22, .int 0]))] sz)) (va_Qi (fun (r : Int32) (u : va_W) => r.toInt = sp_fault ∧ u = []) (g5_B G (va_A [(a0, .inr (12, [.int 0, .int 0, .ref a1, .ref a2, .ref a3, .ref a4, .int 0, .ref a5, .int 0, .int 0, .int 0, .int 0, .long 0, .int (-1), .int 0, .int 0, .ref a6, .int 0, .ref a7, .ref a8, .int 0, .ref a9, .ref a10, .int 0, .int 0, .ref a11, .ref a12, .int 0, .ref a13, .ref a14, .int 0, .long 0, .long 0, .int 0, .int 0, .int 0, .int 0, .int 0, .ref a15, .int 0, .int 0, .ref a16, .int 0, .ref a17, .ref a18, .ref a19, .int 0, .ref a20, .ref a21, .long 0, .ref a22, .int 0]))] sz)) (va_A [(a0, .inr (12, [.int 0, .int 0, .ref a1, .ref a2, .ref a3, .ref a4, .int 0, .ref a5, .int 0, .int 0, .int 0, .int 0, .long 0, .int (-1), .int 0, .int 0, .ref a6, .int 0, .ref a7, .ref a8, .int 0, .ref a9, .ref a10, .int 0, .int 0, .ref a11, .ref a12, .int 0, .ref a13, .ref a14, .int 0, .long 0, .long 0, .int 0, .int 0, .int 0, .int 0, .int 0, .ref a15, .int 0, .int 0, .ref a16, .int 0, .ref a17, .ref a18, .ref a19, .int 0, .ref a20, .ref a21, .long 0, .ref a22, .int 0]))] sz)) 0 0 (va_A [(a0, .inr (12, [.int 0, .int 0, .ref a1, .ref a2, .ref a3, .ref a4, .int 0, .ref a5, .int 0, .int 0, .int 0, .int 0, .long 0, .int (-1), .int 0, .int 0, .ref a6, .int 0, .ref a7, .ref a8, .int 0, .ref a9, .ref a10, .int 0, .int 0, .ref a11, .ref a12, .int 0, .ref a13, .ref a14, .int 0, .long 0, .long 0, .int 0, .int 0, .int 0, .int 0, .int 0, .ref a15, .int 0, .int 0, .ref a16, .int 0, .ref a17, .ref a18, .ref a19, .int 0, .ref a20, .ref a21, .long 0, .ref a22, .int 0]))] sz) := by
  refine g5_wkI (kX12_fault l G a0 a1 a2 a3 a4 a5 a6 a7 a8 a9 a10 a11 a12 a13 a14 a15 a16 a17 a18 a19 a20 a21 a22 sz) (fun r u h => ?_)
  obtain ⟨hr, hu⟩ := h
  refine ⟨?_, hu⟩
  rw [hr]
  rw [show ((-1) : Int32).toInt = (-1) from by decide]
  unfold sp_fault; omega
set_option maxHeartbeats 4000000 in
set_option maxRecDepth 100000 in
theorem sM_force (l : Launch) (G : g5_G) (a0 a1 a2 a3 a4 a5 a6 a7 a8 a9 a10 a11 a12 a13 a14 a15 a16 a17 a18 a19 a20 a21 a22 : Nat) (sz : Nat) (n0 : Int32) : Met l yX12_force (wsG yX12_force cX12_force 2 (some .int)) ({ frames := 2, cells := 0, slots := 0, locals := 44 }) (va_Pc [.ref a0, .int n0] (g5_P G [(a0, .inr (12, [.int 0, .int 0, .ref a1, .ref a2, .ref a3, .ref a4, .int 0, .ref a5, .int 0, .int 0, .int 0, .int 0, .long 0, .int (-1), .int 0, .int 0, .ref a6, .int 0, .ref a7, .ref a8, .int 0, .ref a9, .ref a10, .int 0, .int 0, .ref a11, .ref a12, .int 0, .ref a13, .ref a14, .int 0, .long 0, .long 0, .int 0, .int 0, .int 0, .int 0, .int 0, .ref a15, .int 0, .int 0, .ref a16, .int 0, .ref a17, .ref a18, .ref a19, .int 0, .ref a20, .ref a21, .long 0, .ref a22, .int 0])), (a2, .inl (G.2 0, 5740, .inl (upd (upd (upd (fun _ => 0) 3 (-1)) 4 1000) 6 (-1)))), (a1, .inl (G.2 0, 7, .inl (fun _ => 0)))] sz)) (va_Qi (fun (r : Int32) (u : va_W) => r.toInt = sp_force n0.toInt ∧ u = []) (g5_B G (va_A [(a0, .inr (12, [.int 0, .int 0, .ref a1, .ref a2, .ref a3, .ref a4, .int 0, .ref a5, .int 0, .int 0, .int 0, .int 0, .long 0, .int (-1), .int 0, .int 0, .ref a6, .int 0, .ref a7, .ref a8, .int 0, .ref a9, .ref a10, .int 0, .int 0, .ref a11, .ref a12, .int 0, .ref a13, .ref a14, .int 0, .long 0, .long 0, .int 0, .int 0, .int 0, .int 0, .int 0, .ref a15, .int 0, .int 0, .ref a16, .int 0, .ref a17, .ref a18, .ref a19, .int 0, .ref a20, .ref a21, .long 0, .ref a22, .int 0])), (a2, .inl (G.2 0, 5740, .inl (upd (upd (upd (fun _ => 0) 3 (-1)) 4 1000) 6 (-1)))), (a1, .inl (G.2 0, 7, .inl (fun _ => 0)))] sz)) (va_A [(a0, .inr (12, [.int 0, .int 0, .ref a1, .ref a2, .ref a3, .ref a4, .int 0, .ref a5, .int 0, .int 0, .int 0, .int 0, .long 0, .int (-1), .int 0, .int 0, .ref a6, .int 0, .ref a7, .ref a8, .int 0, .ref a9, .ref a10, .int 0, .int 0, .ref a11, .ref a12, .int 0, .ref a13, .ref a14, .int 0, .long 0, .long 0, .int 0, .int 0, .int 0, .int 0, .int 0, .ref a15, .int 0, .int 0, .ref a16, .int 0, .ref a17, .ref a18, .ref a19, .int 0, .ref a20, .ref a21, .long 0, .ref a22, .int 0])), (a2, .inl (G.2 0, 5740, .inl (upd (upd (upd (fun _ => 0) 3 (-1)) 4 1000) 6 (-1)))), (a1, .inl (G.2 0, 7, .inl (fun _ => 0)))] sz)) 0 0 (va_A [(a0, .inr (12, [.int 0, .int 0, .ref a1, .ref a2, .ref a3, .ref a4, .int 0, .ref a5, .int 0, .int 0, .int 0, .int 0, .long 0, .int (-1), .int 0, .int 0, .ref a6, .int 0, .ref a7, .ref a8, .int 0, .ref a9, .ref a10, .int 0, .int 0, .ref a11, .ref a12, .int 0, .ref a13, .ref a14, .int 0, .long 0, .long 0, .int 0, .int 0, .int 0, .int 0, .int 0, .ref a15, .int 0, .int 0, .ref a16, .int 0, .ref a17, .ref a18, .ref a19, .int 0, .ref a20, .ref a21, .long 0, .ref a22, .int 0])), (a2, .inl (G.2 0, 5740, .inl (upd (upd (upd (fun _ => 0) 3 (-1)) 4 1000) 6 (-1)))), (a1, .inl (G.2 0, 7, .inl (fun _ => 0)))] sz) := by
  refine g5_wkI (kX12_force l G a0 a1 a2 a3 a4 a5 a6 a7 a8 a9 a10 a11 a12 a13 a14 a15 a16 a17 a18 a19 a20 a21 a22 sz n0) (fun r u h => ?_)
  rcases h with ⟨i0, hr, hu⟩ | ⟨i1, i2, hr, hu⟩
  · refine ⟨?_, hu⟩
    rw [hr]
    rw [show ((-1) : Int32).toInt = (-1) from by decide]
    unfold sp_force; omega
  · refine ⟨?_, hu⟩
    rw [hr]
    rw [show ((-2) : Int32).toInt = (-2) from by decide]
    unfold sp_force; omega
set_option maxHeartbeats 4000000 in
set_option maxRecDepth 100000 in
theorem sM_look (l : Launch) (G : g5_G) (a0 a1 a2 a3 a4 a5 a6 a7 a8 a9 a10 a11 a12 a13 a14 a15 a16 a17 a18 a19 a20 a21 a22 : Nat) (sz : Nat) (n0 : Int32) (n1 : Int32) (n2 : Int32) (n3 : Int32) : Met l yX12_look (wsG yX12_look cX12_look 5 (some .int)) ({ frames := 3, cells := 0, slots := 0, locals := 67 }) (va_Pc [.ref a0, .int n0, .int n1, .int n2, .int n3] (g5_P G [(a0, .inr (12, [.int 0, .int 0, .ref a1, .ref a2, .ref a3, .ref a4, .int 0, .ref a5, .int 0, .int 0, .int 0, .int 0, .long 0, .int (-1), .int 0, .int 0, .ref a6, .int 0, .ref a7, .ref a8, .int 0, .ref a9, .ref a10, .int 0, .int 0, .ref a11, .ref a12, .int 0, .ref a13, .ref a14, .int 0, .long 0, .long 0, .int 0, .int 0, .int 0, .int 0, .int 0, .ref a15, .int 0, .int 0, .ref a16, .int 0, .ref a17, .ref a18, .ref a19, .int 0, .ref a20, .ref a21, .long 0, .ref a22, .int 0])), (a2, .inl (G.2 0, 5740, .inl (upd (upd (upd (fun _ => 0) 3 (-1)) 4 1000) 6 (-1)))), (a15, .inl (G.2 0, 200, .inl (fun _ => 0)))] sz)) (va_Qi (fun (r : Int32) (u : va_W) => r.toInt = sp_look n0.toInt n1.toInt n2.toInt n3.toInt ∧ u = []) (g5_B G (va_A [(a0, .inr (12, [.int 0, .int 0, .ref a1, .ref a2, .ref a3, .ref a4, .int 0, .ref a5, .int 0, .int 0, .int 0, .int 0, .long 0, .int (-1), .int 0, .int 0, .ref a6, .int 0, .ref a7, .ref a8, .int 0, .ref a9, .ref a10, .int 0, .int 0, .ref a11, .ref a12, .int 0, .ref a13, .ref a14, .int 0, .long 0, .long 0, .int 0, .int 0, .int 0, .int 0, .int 0, .ref a15, .int 0, .int 0, .ref a16, .int 0, .ref a17, .ref a18, .ref a19, .int 0, .ref a20, .ref a21, .long 0, .ref a22, .int 0])), (a2, .inl (G.2 0, 5740, .inl (upd (upd (upd (fun _ => 0) 3 (-1)) 4 1000) 6 (-1)))), (a15, .inl (G.2 0, 200, .inl (fun _ => 0)))] sz)) (va_A [(a0, .inr (12, [.int 0, .int 0, .ref a1, .ref a2, .ref a3, .ref a4, .int 0, .ref a5, .int 0, .int 0, .int 0, .int 0, .long 0, .int (-1), .int 0, .int 0, .ref a6, .int 0, .ref a7, .ref a8, .int 0, .ref a9, .ref a10, .int 0, .int 0, .ref a11, .ref a12, .int 0, .ref a13, .ref a14, .int 0, .long 0, .long 0, .int 0, .int 0, .int 0, .int 0, .int 0, .ref a15, .int 0, .int 0, .ref a16, .int 0, .ref a17, .ref a18, .ref a19, .int 0, .ref a20, .ref a21, .long 0, .ref a22, .int 0])), (a2, .inl (G.2 0, 5740, .inl (upd (upd (upd (fun _ => 0) 3 (-1)) 4 1000) 6 (-1)))), (a15, .inl (G.2 0, 200, .inl (fun _ => 0)))] sz)) 0 0 (va_A [(a0, .inr (12, [.int 0, .int 0, .ref a1, .ref a2, .ref a3, .ref a4, .int 0, .ref a5, .int 0, .int 0, .int 0, .int 0, .long 0, .int (-1), .int 0, .int 0, .ref a6, .int 0, .ref a7, .ref a8, .int 0, .ref a9, .ref a10, .int 0, .int 0, .ref a11, .ref a12, .int 0, .ref a13, .ref a14, .int 0, .long 0, .long 0, .int 0, .int 0, .int 0, .int 0, .int 0, .ref a15, .int 0, .int 0, .ref a16, .int 0, .ref a17, .ref a18, .ref a19, .int 0, .ref a20, .ref a21, .long 0, .ref a22, .int 0])), (a2, .inl (G.2 0, 5740, .inl (upd (upd (upd (fun _ => 0) 3 (-1)) 4 1000) 6 (-1)))), (a15, .inl (G.2 0, 200, .inl (fun _ => 0)))] sz) := by
  refine g5_wkI (kX12_look l G a0 a1 a2 a3 a4 a5 a6 a7 a8 a9 a10 a11 a12 a13 a14 a15 a16 a17 a18 a19 a20 a21 a22 sz n0 n1 n2 n3) (fun r u h => ?_)
  rcases h with ⟨i0, hr, hu⟩ | ⟨i1, i2, hr, hu⟩ | ⟨i3, i4, i5, hr, hu⟩ | ⟨z6, z7, z8, i9, i10, i11, i12, i13, i14, i15, i16, i17, hr, hu⟩ | ⟨z18, z19, z20, i21, i22, i23, i24, i25, i26, i27, i28, i29, hr, hu⟩ | ⟨z30, z31, z32, i33, i34, i35, i36, i37, i38, i39, i40, i41, i42, i43, hr, hu⟩ | ⟨z44, z45, z46, i47, i48, i49, i50, i51, i52, i53, i54, i55, i56, hr, hu⟩ | ⟨z57, z58, z59, i60, i61, i62, i63, i64, i65, i66, i67, i68, hr, hu⟩ | ⟨z69, z70, z71, i72, i73, i74, i75, i76, i77, i78, i79, i80, hr, hu⟩ | ⟨z81, z82, z83, i84, i85, i86, i87, i88, i89, i90, i91, i92, hr, hu⟩ | ⟨z93, z94, z95, i96, i97, i98, i99, i100, i101, i102, i103, i104, hr, hu⟩ | ⟨z105, z106, z107, i108, i109, i110, i111, i112, i113, i114, i115, i116, hr, hu⟩ | ⟨z117, z118, z119, i120, i121, i122, i123, i124, i125, i126, i127, i128, hr, hu⟩ | ⟨z129, z130, z131, i132, i133, i134, i135, i136, i137, i138, i139, i140, i141, i142, hr, hu⟩ | ⟨z143, z144, z145, i146, i147, i148, i149, i150, i151, i152, i153, i154, i155, hr, hu⟩ | ⟨z156, z157, z158, i159, i160, i161, i162, i163, i164, i165, i166, i167, hr, hu⟩ | ⟨z168, z169, z170, i171, i172, i173, i174, i175, i176, i177, i178, i179, hr, hu⟩ | ⟨z180, z181, z182, i183, i184, i185, i186, i187, i188, i189, i190, i191, hr, hu⟩ | ⟨z192, z193, z194, i195, i196, i197, i198, i199, i200, i201, i202, i203, hr, hu⟩ | ⟨z204, z205, z206, i207, i208, i209, i210, i211, i212, i213, i214, i215, hr, hu⟩ | ⟨z216, z217, z218, i219, i220, i221, i222, i223, i224, i225, i226, i227, hr, hu⟩ | ⟨z228, z229, z230, i231, i232, i233, i234, i235, i236, i237, i238, i239, i240, i241, hr, hu⟩ | ⟨z242, z243, z244, i245, i246, i247, i248, i249, i250, i251, i252, i253, i254, hr, hu⟩ | ⟨z255, z256, z257, i258, i259, i260, i261, i262, i263, i264, i265, i266, hr, hu⟩ | ⟨z267, z268, z269, i270, i271, i272, i273, i274, i275, i276, i277, i278, hr, hu⟩ | ⟨z279, z280, z281, i282, i283, i284, i285, i286, i287, i288, i289, i290, hr, hu⟩ | ⟨z291, z292, z293, i294, i295, i296, i297, i298, i299, i300, i301, i302, hr, hu⟩ | ⟨z303, z304, z305, i306, i307, i308, i309, i310, i311, i312, i313, i314, hr, hu⟩ | ⟨z315, z316, z317, i318, i319, i320, i321, i322, i323, i324, i325, i326, hr, hu⟩ | ⟨z327, z328, z329, i330, i331, i332, i333, i334, i335, i336, i337, i338, i339, i340, hr, hu⟩ | ⟨z341, z342, z343, i344, i345, i346, i347, i348, i349, i350, i351, i352, i353, hr, hu⟩ | ⟨z354, z355, z356, i357, i358, i359, i360, i361, i362, i363, i364, i365, hr, hu⟩ | ⟨z366, z367, z368, i369, i370, i371, i372, i373, i374, i375, i376, i377, hr, hu⟩ | ⟨z378, z379, z380, i381, i382, i383, i384, i385, i386, i387, i388, i389, hr, hu⟩ | ⟨z390, z391, z392, i393, i394, i395, i396, i397, i398, i399, i400, i401, hr, hu⟩
  · refine ⟨?_, hu⟩
    rw [hr]
    rw [show ((-1) : Int32).toInt = (-1) from by decide]
    unfold sp_look nW; omega
  · refine ⟨?_, hu⟩
    rw [hr]
    rw [show ((-1) : Int32).toInt = (-1) from by decide]
    unfold sp_look nW; omega
  · refine ⟨?_, hu⟩
    rw [hr]
    rw [show ((-1) : Int32).toInt = (-1) from by decide]
    unfold sp_look nW; omega
  · refine ⟨?_, hu⟩
    rw [hr]
    rw [show ((-1) : Int32).toInt = (-1) from by decide]
    unfold sp_look nW; omega
  · refine ⟨?_, hu⟩
    rw [hr]
    unfold sp_look nW; omega
  · refine ⟨?_, hu⟩
    rw [hr]
    unfold sp_look nW; omega
  · refine ⟨?_, hu⟩
    rw [hr]
    rw [show ((-1) : Int32).toInt = (-1) from by decide]
    unfold sp_look nW; omega
  · refine ⟨?_, hu⟩
    rw [hr]
    rw [show (1000000 : Int32).toInt = 1000000 from by decide]
    unfold sp_look nW; omega
  · refine ⟨?_, hu⟩
    rw [hr]
    rw [show (0 : Int32).toInt = 0 from by decide]
    unfold sp_look nW; omega
  · refine ⟨?_, hu⟩
    rw [hr]
    rw [show ((-1) : Int32).toInt = (-1) from by decide]
    unfold sp_look nW; omega
  · refine ⟨?_, hu⟩
    rw [hr]
    rw [show ((-1) : Int32).toInt = (-1) from by decide]
    unfold sp_look nW; omega
  · refine ⟨?_, hu⟩
    rw [hr]
    rw [show ((-1) : Int32).toInt = (-1) from by decide]
    unfold sp_look nW; omega
  · refine ⟨?_, hu⟩
    rw [hr]
    unfold sp_look nW; omega
  · refine ⟨?_, hu⟩
    rw [hr]
    unfold sp_look nW; omega
  · refine ⟨?_, hu⟩
    rw [hr]
    rw [show ((-1) : Int32).toInt = (-1) from by decide]
    unfold sp_look nW; omega
  · refine ⟨?_, hu⟩
    rw [hr]
    rw [show (1000000 : Int32).toInt = 1000000 from by decide]
    unfold sp_look nW; omega
  · refine ⟨?_, hu⟩
    rw [hr]
    rw [show (0 : Int32).toInt = 0 from by decide]
    unfold sp_look nW; omega
  · refine ⟨?_, hu⟩
    rw [hr]
    rw [show ((-1) : Int32).toInt = (-1) from by decide]
    unfold sp_look nW; omega
  · refine ⟨?_, hu⟩
    rw [hr]
    rw [show ((-1) : Int32).toInt = (-1) from by decide]
    unfold sp_look nW; omega
  · refine ⟨?_, hu⟩
    rw [hr]
    rw [show ((-1) : Int32).toInt = (-1) from by decide]
    unfold sp_look nW; omega
  · refine ⟨?_, hu⟩
    rw [hr]
    unfold sp_look nW; omega
  · refine ⟨?_, hu⟩
    rw [hr]
    unfold sp_look nW; omega
  · refine ⟨?_, hu⟩
    rw [hr]
    rw [show ((-1) : Int32).toInt = (-1) from by decide]
    unfold sp_look nW; omega
  · refine ⟨?_, hu⟩
    rw [hr]
    rw [show (1000000 : Int32).toInt = 1000000 from by decide]
    unfold sp_look nW; omega
  · refine ⟨?_, hu⟩
    rw [hr]
    rw [show (0 : Int32).toInt = 0 from by decide]
    unfold sp_look nW; omega
  · refine ⟨?_, hu⟩
    rw [hr]
    rw [show ((-1) : Int32).toInt = (-1) from by decide]
    unfold sp_look nW; omega
  · refine ⟨?_, hu⟩
    rw [hr]
    rw [show ((-1) : Int32).toInt = (-1) from by decide]
    unfold sp_look nW; omega
  · refine ⟨?_, hu⟩
    rw [hr]
    rw [show ((-1) : Int32).toInt = (-1) from by decide]
    unfold sp_look nW; omega
  · refine ⟨?_, hu⟩
    rw [hr]
    unfold sp_look nW; omega
  · refine ⟨?_, hu⟩
    rw [hr]
    unfold sp_look nW; omega
  · refine ⟨?_, hu⟩
    rw [hr]
    rw [show ((-1) : Int32).toInt = (-1) from by decide]
    unfold sp_look nW; omega
  · refine ⟨?_, hu⟩
    rw [hr]
    rw [show (1000000 : Int32).toInt = 1000000 from by decide]
    unfold sp_look nW; omega
  · refine ⟨?_, hu⟩
    rw [hr]
    rw [show (0 : Int32).toInt = 0 from by decide]
    unfold sp_look nW; omega
  · refine ⟨?_, hu⟩
    rw [hr]
    rw [show ((-1) : Int32).toInt = (-1) from by decide]
    unfold sp_look nW; omega
  · refine ⟨?_, hu⟩
    rw [hr]
    rw [show ((-1) : Int32).toInt = (-1) from by decide]
    unfold sp_look nW; omega
set_option maxHeartbeats 4000000 in
set_option maxRecDepth 100000 in
theorem sM_point (l : Launch) (G : g5_G) (a0 a1 a2 a3 a4 a5 a6 a7 a8 a9 a10 a11 a12 a13 a14 a15 a16 a17 a18 a19 a20 a21 a22 : Nat) (sz : Nat) (n0 : Int32) (n1 : Int32) (n2 : Int32) (n3 : Int32) : Met l yX12_point (wsG yX12_point cX12_point 5 (some .int)) ({ frames := 3, cells := 0, slots := 0, locals := 67 }) (va_Pc [.ref a0, .int n0, .int n1, .int n2, .int n3] (g5_P G [(a0, .inr (12, [.int 0, .int 0, .ref a1, .ref a2, .ref a3, .ref a4, .int 0, .ref a5, .int 0, .int 0, .int 0, .int 0, .long 0, .int (-1), .int 0, .int 0, .ref a6, .int 0, .ref a7, .ref a8, .int 0, .ref a9, .ref a10, .int 0, .int 0, .ref a11, .ref a12, .int 0, .ref a13, .ref a14, .int 0, .long 0, .long 0, .int 0, .int 0, .int 0, .int 0, .int 0, .ref a15, .int 0, .int 0, .ref a16, .int 0, .ref a17, .ref a18, .ref a19, .int 0, .ref a20, .ref a21, .long 0, .ref a22, .int 0])), (a2, .inl (G.2 0, 5740, .inl (upd (upd (upd (fun _ => 0) 3 (-1)) 4 1000) 6 (-1)))), (a15, .inl (G.2 0, 200, .inl (fun _ => 0)))] sz)) (va_Qi (fun (r : Int32) (u : va_W) => r.toInt = sp_point n0.toInt n1.toInt n2.toInt n3.toInt ∧ u = []) (g5_B G (va_A [(a0, .inr (12, [.int 0, .int 0, .ref a1, .ref a2, .ref a3, .ref a4, .int 0, .ref a5, .int 0, .int 0, .int 0, .int 0, .long 0, .int (-1), .int 0, .int 0, .ref a6, .int 0, .ref a7, .ref a8, .int 0, .ref a9, .ref a10, .int 0, .int 0, .ref a11, .ref a12, .int 0, .ref a13, .ref a14, .int 0, .long 0, .long 0, .int 0, .int 0, .int 0, .int 0, .int 0, .ref a15, .int 0, .int 0, .ref a16, .int 0, .ref a17, .ref a18, .ref a19, .int 0, .ref a20, .ref a21, .long 0, .ref a22, .int 0])), (a2, .inl (G.2 0, 5740, .inl (upd (upd (upd (fun _ => 0) 3 (-1)) 4 1000) 6 (-1)))), (a15, .inl (G.2 0, 200, .inl (fun _ => 0)))] sz)) (va_A [(a0, .inr (12, [.int 0, .int 0, .ref a1, .ref a2, .ref a3, .ref a4, .int 0, .ref a5, .int 0, .int 0, .int 0, .int 0, .long 0, .int (-1), .int 0, .int 0, .ref a6, .int 0, .ref a7, .ref a8, .int 0, .ref a9, .ref a10, .int 0, .int 0, .ref a11, .ref a12, .int 0, .ref a13, .ref a14, .int 0, .long 0, .long 0, .int 0, .int 0, .int 0, .int 0, .int 0, .ref a15, .int 0, .int 0, .ref a16, .int 0, .ref a17, .ref a18, .ref a19, .int 0, .ref a20, .ref a21, .long 0, .ref a22, .int 0])), (a2, .inl (G.2 0, 5740, .inl (upd (upd (upd (fun _ => 0) 3 (-1)) 4 1000) 6 (-1)))), (a15, .inl (G.2 0, 200, .inl (fun _ => 0)))] sz)) 0 0 (va_A [(a0, .inr (12, [.int 0, .int 0, .ref a1, .ref a2, .ref a3, .ref a4, .int 0, .ref a5, .int 0, .int 0, .int 0, .int 0, .long 0, .int (-1), .int 0, .int 0, .ref a6, .int 0, .ref a7, .ref a8, .int 0, .ref a9, .ref a10, .int 0, .int 0, .ref a11, .ref a12, .int 0, .ref a13, .ref a14, .int 0, .long 0, .long 0, .int 0, .int 0, .int 0, .int 0, .int 0, .ref a15, .int 0, .int 0, .ref a16, .int 0, .ref a17, .ref a18, .ref a19, .int 0, .ref a20, .ref a21, .long 0, .ref a22, .int 0])), (a2, .inl (G.2 0, 5740, .inl (upd (upd (upd (fun _ => 0) 3 (-1)) 4 1000) 6 (-1)))), (a15, .inl (G.2 0, 200, .inl (fun _ => 0)))] sz) := by
  refine g5_wkI (kX12_point l G a0 a1 a2 a3 a4 a5 a6 a7 a8 a9 a10 a11 a12 a13 a14 a15 a16 a17 a18 a19 a20 a21 a22 sz n0 n1 n2 n3) (fun r u h => ?_)
  rcases h with ⟨i0, hr, hu⟩ | ⟨i1, i2, hr, hu⟩ | ⟨i3, i4, i5, hr, hu⟩ | ⟨z6, z7, z8, i9, i10, i11, i12, i13, i14, i15, i16, i17, hr, hu⟩ | ⟨z18, z19, z20, i21, i22, i23, i24, i25, i26, i27, i28, i29, i30, hr, hu⟩ | ⟨z31, z32, z33, i34, i35, i36, i37, i38, i39, i40, i41, i42, hr, hu⟩ | ⟨z43, z44, z45, i46, i47, i48, i49, i50, i51, i52, i53, i54, i55, hr, hu⟩ | ⟨z56, z57, z58, i59, i60, i61, i62, i63, i64, i65, i66, i67, hr, hu⟩ | ⟨z68, z69, z70, i71, i72, i73, i74, i75, i76, i77, i78, i79, i80, hr, hu⟩ | ⟨z81, z82, z83, i84, i85, i86, i87, i88, i89, i90, i91, i92, hr, hu⟩ | ⟨z93, z94, z95, i96, i97, i98, i99, i100, i101, i102, i103, i104, i105, hr, hu⟩
  · refine ⟨?_, hu⟩
    rw [hr]
    rw [show ((-1) : Int32).toInt = (-1) from by decide]
    unfold sp_point nW gW; omega
  · refine ⟨?_, hu⟩
    rw [hr]
    rw [show ((-1) : Int32).toInt = (-1) from by decide]
    unfold sp_point nW gW; omega
  · refine ⟨?_, hu⟩
    rw [hr]
    rw [show ((-1) : Int32).toInt = (-1) from by decide]
    unfold sp_point nW gW; omega
  · refine ⟨?_, hu⟩
    rw [hr]
    rw [show ((-1) : Int32).toInt = (-1) from by decide]
    unfold sp_point nW gW; omega
  · refine ⟨?_, hu⟩
    rw [hr]
    unfold sp_point nW gW; omega
  · refine ⟨?_, hu⟩
    rw [hr]
    rw [show ((-1) : Int32).toInt = (-1) from by decide]
    unfold sp_point nW gW; omega
  · refine ⟨?_, hu⟩
    rw [hr]
    unfold sp_point nW gW; omega
  · refine ⟨?_, hu⟩
    rw [hr]
    rw [show ((-1) : Int32).toInt = (-1) from by decide]
    unfold sp_point nW gW; omega
  · refine ⟨?_, hu⟩
    rw [hr]
    unfold sp_point nW gW; omega
  · refine ⟨?_, hu⟩
    rw [hr]
    rw [show ((-1) : Int32).toInt = (-1) from by decide]
    unfold sp_point nW gW; omega
  · refine ⟨?_, hu⟩
    rw [hr]
    unfold sp_point nW gW; omega
set_option maxHeartbeats 4000000 in
set_option maxRecDepth 100000 in
theorem sM_sees (l : Launch) (G : g5_G) (a0 a1 a2 a3 a4 a5 a6 a7 a8 a9 a10 a11 a12 a13 a14 a15 a16 a17 a18 a19 a20 a21 a22 : Nat) (sz : Nat) (n0 : Int32) (n1 : Int32) : Met l yX12_sees (wsG yX12_sees cX12_sees 3 (some .int)) ({ frames := 3, cells := 0, slots := 0, locals := 72 }) (va_Pc [.ref a0, .int n0, .int n1] (g5_P G [(a0, .inr (12, [.int 0, .int 0, .ref a1, .ref a2, .ref a3, .ref a4, .int 0, .ref a5, .int 0, .int 0, .int 0, .int 0, .long 0, .int (-1), .int 0, .int 0, .ref a6, .int 0, .ref a7, .ref a8, .int 0, .ref a9, .ref a10, .int 0, .int 0, .ref a11, .ref a12, .int 0, .ref a13, .ref a14, .int 0, .long 0, .long 0, .int 0, .int 0, .int 0, .int 0, .int 0, .ref a15, .int 0, .int 0, .ref a16, .int 0, .ref a17, .ref a18, .ref a19, .int 0, .ref a20, .ref a21, .long 0, .ref a22, .int 0])), (a2, .inl (G.2 0, 5740, .inl (upd (upd (upd (fun _ => 0) 3 (-1)) 4 1000) 6 (-1)))), (a15, .inl (G.2 0, 200, .inl (fun _ => 0)))] sz)) (va_Qi (fun (r : Int32) (u : va_W) => r.toInt = sp_sees n0.toInt n1.toInt ∧ u = []) (g5_B G (va_A [(a0, .inr (12, [.int 0, .int 0, .ref a1, .ref a2, .ref a3, .ref a4, .int 0, .ref a5, .int 0, .int 0, .int 0, .int 0, .long 0, .int (-1), .int 0, .int 0, .ref a6, .int 0, .ref a7, .ref a8, .int 0, .ref a9, .ref a10, .int 0, .int 0, .ref a11, .ref a12, .int 0, .ref a13, .ref a14, .int 0, .long 0, .long 0, .int 0, .int 0, .int 0, .int 0, .int 0, .ref a15, .int 0, .int 0, .ref a16, .int 0, .ref a17, .ref a18, .ref a19, .int 0, .ref a20, .ref a21, .long 0, .ref a22, .int 0])), (a2, .inl (G.2 0, 5740, .inl (upd (upd (upd (fun _ => 0) 3 (-1)) 4 1000) 6 (-1)))), (a15, .inl (G.2 0, 200, .inl (fun _ => 0)))] sz)) (va_A [(a0, .inr (12, [.int 0, .int 0, .ref a1, .ref a2, .ref a3, .ref a4, .int 0, .ref a5, .int 0, .int 0, .int 0, .int 0, .long 0, .int (-1), .int 0, .int 0, .ref a6, .int 0, .ref a7, .ref a8, .int 0, .ref a9, .ref a10, .int 0, .int 0, .ref a11, .ref a12, .int 0, .ref a13, .ref a14, .int 0, .long 0, .long 0, .int 0, .int 0, .int 0, .int 0, .int 0, .ref a15, .int 0, .int 0, .ref a16, .int 0, .ref a17, .ref a18, .ref a19, .int 0, .ref a20, .ref a21, .long 0, .ref a22, .int 0])), (a2, .inl (G.2 0, 5740, .inl (upd (upd (upd (fun _ => 0) 3 (-1)) 4 1000) 6 (-1)))), (a15, .inl (G.2 0, 200, .inl (fun _ => 0)))] sz)) 0 0 (va_A [(a0, .inr (12, [.int 0, .int 0, .ref a1, .ref a2, .ref a3, .ref a4, .int 0, .ref a5, .int 0, .int 0, .int 0, .int 0, .long 0, .int (-1), .int 0, .int 0, .ref a6, .int 0, .ref a7, .ref a8, .int 0, .ref a9, .ref a10, .int 0, .int 0, .ref a11, .ref a12, .int 0, .ref a13, .ref a14, .int 0, .long 0, .long 0, .int 0, .int 0, .int 0, .int 0, .int 0, .ref a15, .int 0, .int 0, .ref a16, .int 0, .ref a17, .ref a18, .ref a19, .int 0, .ref a20, .ref a21, .long 0, .ref a22, .int 0])), (a2, .inl (G.2 0, 5740, .inl (upd (upd (upd (fun _ => 0) 3 (-1)) 4 1000) 6 (-1)))), (a15, .inl (G.2 0, 200, .inl (fun _ => 0)))] sz) := by
  refine g5_wkI (kX12_sees l G a0 a1 a2 a3 a4 a5 a6 a7 a8 a9 a10 a11 a12 a13 a14 a15 a16 a17 a18 a19 a20 a21 a22 sz n0 n1) (fun r u h => ?_)
  rcases h with ⟨i0, hr, hu⟩ | ⟨i1, i2, hr, hu⟩ | ⟨z3, z4, z5, z6, z7, z8, z9, z10, z11, z12, z13, z14, i15, i16, i17, i18, i19, i20, i21, i22, i23, i24, i25, i26, i27, i28, i29, i30, i31, i32, hr, hu⟩
  · refine ⟨?_, hu⟩
    rw [hr]
    rw [show ((-1) : Int32).toInt = (-1) from by decide]
    unfold sp_sees; omega
  · refine ⟨?_, hu⟩
    rw [hr]
    rw [show ((-1) : Int32).toInt = (-1) from by decide]
    unfold sp_sees; omega
  · refine ⟨?_, hu⟩
    rw [hr]
    rw [show (0 : Int32).toInt = 0 from by decide]
    unfold sp_sees; omega
set_option maxHeartbeats 4000000 in
set_option maxRecDepth 100000 in
theorem sM_late (l : Launch) (G : g5_G) (a0 a1 a2 a3 a4 a5 a6 a7 a8 a9 a10 a11 a12 a13 a14 a15 a16 a17 a18 a19 a20 a21 a22 : Nat) (sz : Nat) (n0 : Int32) (n1 : Int32) (n2 : Int32) : Met l yX12_late (wsG yX12_late cX12_late 4 (some .int)) ({ frames := 2, cells := 0, slots := 0, locals := 46 }) (va_Pc [.ref a0, .int n0, .int n1, .int n2] (g5_P G [(a0, .inr (12, [.int 0, .int 0, .ref a1, .ref a2, .ref a3, .ref a4, .int 0, .ref a5, .int 0, .int 0, .int 0, .int 0, .long 0, .int (-1), .int 0, .int 0, .ref a6, .int 0, .ref a7, .ref a8, .int 0, .ref a9, .ref a10, .int 0, .int 0, .ref a11, .ref a12, .int 0, .ref a13, .ref a14, .int 0, .long 0, .long 0, .int 0, .int 0, .int 0, .int 0, .int 0, .ref a15, .int 0, .int 0, .ref a16, .int 0, .ref a17, .ref a18, .ref a19, .int 0, .ref a20, .ref a21, .long 0, .ref a22, .int 0])), (a2, .inl (G.2 0, 5740, .inl (upd (upd (upd (fun _ => 0) 3 (-1)) 4 1000) 6 (-1))))] sz)) (va_Qi (fun (r : Int32) (u : va_W) => r.toInt = sp_late n0.toInt n1.toInt n2.toInt ∧ u = []) (g5_B G (va_A [(a0, .inr (12, [.int 0, .int 0, .ref a1, .ref a2, .ref a3, .ref a4, .int 0, .ref a5, .int 0, .int 0, .int 0, .int 0, .long 0, .int (-1), .int 0, .int 0, .ref a6, .int 0, .ref a7, .ref a8, .int 0, .ref a9, .ref a10, .int 0, .int 0, .ref a11, .ref a12, .int 0, .ref a13, .ref a14, .int 0, .long 0, .long 0, .int 0, .int 0, .int 0, .int 0, .int 0, .ref a15, .int 0, .int 0, .ref a16, .int 0, .ref a17, .ref a18, .ref a19, .int 0, .ref a20, .ref a21, .long 0, .ref a22, .int 0])), (a2, .inl (G.2 0, 5740, .inl (upd (upd (upd (fun _ => 0) 3 (-1)) 4 1000) 6 (-1))))] sz)) (va_A [(a0, .inr (12, [.int 0, .int 0, .ref a1, .ref a2, .ref a3, .ref a4, .int 0, .ref a5, .int 0, .int 0, .int 0, .int 0, .long 0, .int (-1), .int 0, .int 0, .ref a6, .int 0, .ref a7, .ref a8, .int 0, .ref a9, .ref a10, .int 0, .int 0, .ref a11, .ref a12, .int 0, .ref a13, .ref a14, .int 0, .long 0, .long 0, .int 0, .int 0, .int 0, .int 0, .int 0, .ref a15, .int 0, .int 0, .ref a16, .int 0, .ref a17, .ref a18, .ref a19, .int 0, .ref a20, .ref a21, .long 0, .ref a22, .int 0])), (a2, .inl (G.2 0, 5740, .inl (upd (upd (upd (fun _ => 0) 3 (-1)) 4 1000) 6 (-1))))] sz)) 0 0 (va_A [(a0, .inr (12, [.int 0, .int 0, .ref a1, .ref a2, .ref a3, .ref a4, .int 0, .ref a5, .int 0, .int 0, .int 0, .int 0, .long 0, .int (-1), .int 0, .int 0, .ref a6, .int 0, .ref a7, .ref a8, .int 0, .ref a9, .ref a10, .int 0, .int 0, .ref a11, .ref a12, .int 0, .ref a13, .ref a14, .int 0, .long 0, .long 0, .int 0, .int 0, .int 0, .int 0, .int 0, .ref a15, .int 0, .int 0, .ref a16, .int 0, .ref a17, .ref a18, .ref a19, .int 0, .ref a20, .ref a21, .long 0, .ref a22, .int 0])), (a2, .inl (G.2 0, 5740, .inl (upd (upd (upd (fun _ => 0) 3 (-1)) 4 1000) 6 (-1))))] sz) := by
  refine g5_wkI (kX12_late l G a0 a1 a2 a3 a4 a5 a6 a7 a8 a9 a10 a11 a12 a13 a14 a15 a16 a17 a18 a19 a20 a21 a22 sz n0 n1 n2) (fun r u h => ?_)
  obtain ⟨i0, hr, hu⟩ := h
  refine ⟨?_, hu⟩
  rw [hr]
  rw [show ((-1) : Int32).toInt = (-1) from by decide]
  unfold sp_late; omega
set_option maxHeartbeats 4000000 in
set_option maxRecDepth 100000 in
theorem sM_first (l : Launch) (G : g5_G) (a0 a1 a2 a3 a4 a5 a6 a7 a8 a9 a10 a11 a12 a13 a14 a15 a16 a17 a18 a19 a20 a21 a22 : Nat) (sz : Nat) (n0 : Int32) (n1 : Int32) : Met l yX12_first (wsG yX12_first cX12_first 6 (some .int)) ({ frames := 2, cells := 0, slots := 0, locals := 46 }) (va_Pc [.ref a0, .int n0, .int n1] (g5_P G [(a0, .inr (12, [.int 0, .int 0, .ref a1, .ref a2, .ref a3, .ref a4, .int 0, .ref a5, .int 0, .int 0, .int 0, .int 0, .long 0, .int (-1), .int 0, .int 0, .ref a6, .int 0, .ref a7, .ref a8, .int 0, .ref a9, .ref a10, .int 0, .int 0, .ref a11, .ref a12, .int 0, .ref a13, .ref a14, .int 0, .long 0, .long 0, .int 0, .int 0, .int 0, .int 0, .int 0, .ref a15, .int 0, .int 0, .ref a16, .int 0, .ref a17, .ref a18, .ref a19, .int 0, .ref a20, .ref a21, .long 0, .ref a22, .int 0])), (a2, .inl (G.2 0, 5740, .inl (upd (upd (upd (fun _ => 0) 3 (-1)) 4 1000) 6 (-1))))] sz)) (va_Qi (fun (r : Int32) (u : va_W) => r.toInt = sp_first n0.toInt n1.toInt ∧ u = []) (g5_B G (va_A [(a0, .inr (12, [.int 0, .int 0, .ref a1, .ref a2, .ref a3, .ref a4, .int 0, .ref a5, .int 0, .int 0, .int 0, .int 0, .long 0, .int (-1), .int 0, .int 0, .ref a6, .int 0, .ref a7, .ref a8, .int 0, .ref a9, .ref a10, .int 0, .int 0, .ref a11, .ref a12, .int 0, .ref a13, .ref a14, .int 0, .long 0, .long 0, .int 0, .int 0, .int 0, .int 0, .int 0, .ref a15, .int 0, .int 0, .ref a16, .int 0, .ref a17, .ref a18, .ref a19, .int 0, .ref a20, .ref a21, .long 0, .ref a22, .int 0])), (a2, .inl (G.2 0, 5740, .inl (upd (upd (upd (fun _ => 0) 3 (-1)) 4 1000) 6 (-1))))] sz)) (va_A [(a0, .inr (12, [.int 0, .int 0, .ref a1, .ref a2, .ref a3, .ref a4, .int 0, .ref a5, .int 0, .int 0, .int 0, .int 0, .long 0, .int (-1), .int 0, .int 0, .ref a6, .int 0, .ref a7, .ref a8, .int 0, .ref a9, .ref a10, .int 0, .int 0, .ref a11, .ref a12, .int 0, .ref a13, .ref a14, .int 0, .long 0, .long 0, .int 0, .int 0, .int 0, .int 0, .int 0, .ref a15, .int 0, .int 0, .ref a16, .int 0, .ref a17, .ref a18, .ref a19, .int 0, .ref a20, .ref a21, .long 0, .ref a22, .int 0])), (a2, .inl (G.2 0, 5740, .inl (upd (upd (upd (fun _ => 0) 3 (-1)) 4 1000) 6 (-1))))] sz)) 0 0 (va_A [(a0, .inr (12, [.int 0, .int 0, .ref a1, .ref a2, .ref a3, .ref a4, .int 0, .ref a5, .int 0, .int 0, .int 0, .int 0, .long 0, .int (-1), .int 0, .int 0, .ref a6, .int 0, .ref a7, .ref a8, .int 0, .ref a9, .ref a10, .int 0, .int 0, .ref a11, .ref a12, .int 0, .ref a13, .ref a14, .int 0, .long 0, .long 0, .int 0, .int 0, .int 0, .int 0, .int 0, .ref a15, .int 0, .int 0, .ref a16, .int 0, .ref a17, .ref a18, .ref a19, .int 0, .ref a20, .ref a21, .long 0, .ref a22, .int 0])), (a2, .inl (G.2 0, 5740, .inl (upd (upd (upd (fun _ => 0) 3 (-1)) 4 1000) 6 (-1))))] sz) := by
  refine g5_wkI (kX12_first l G a0 a1 a2 a3 a4 a5 a6 a7 a8 a9 a10 a11 a12 a13 a14 a15 a16 a17 a18 a19 a20 a21 a22 sz n0 n1) (fun r u h => ?_)
  obtain ⟨i0, hr, hu⟩ := h
  refine ⟨?_, hu⟩
  rw [hr]
  rw [show ((-1) : Int32).toInt = (-1) from by decide]
  unfold sp_first; omega
set_option maxHeartbeats 4000000 in
set_option maxRecDepth 100000 in
theorem sM_lit (l : Launch) (G : g5_G) (a_y a_2 a_15 a_16 a_1 a_3 a_4 a_5 a_6 a_7 a_8 a_9 a_10 a_11 a_12 a_13 a_14 a_17 a_18 a_19 a_20 a_21 a_22 : Nat) (sz : Nat) (p_c : Int32) (p_h : Int32) (p_w : Int32) : Met l yX12_lit (wsG yX12_lit cX12_lit 8 (some .int)) ({ frames := 3, cells := 0, slots := 0, locals := 72 }) (va_Pc [.ref a_y, .int p_c, .int p_h, .int p_w] (g5_P G [(a_y, .inr (12, [.int 0, .int 0, .ref a_1, .ref a_2, .ref a_3, .ref a_4, .int 0, .ref a_5, .int 0, .int 0, .int 0, .int 0, .long 0, .int (-1), .int 0, .int 0, .ref a_6, .int 0, .ref a_7, .ref a_8, .int 0, .ref a_9, .ref a_10, .int 0, .int 0, .ref a_11, .ref a_12, .int 0, .ref a_13, .ref a_14, .int 0, .long 0, .long 0, .int 0, .int 0, .int 0, .int 0, .int 0, .ref a_15, .int 0, .int 0, .ref a_16, .int 0, .ref a_17, .ref a_18, .ref a_19, .int 0, .ref a_20, .ref a_21, .long 0, .ref a_22, .int 0])), (a_2, .inl (G.2 0, 5740, .inl (upd (upd (upd (fun _ => 0) 3 (-1)) 4 1000) 6 (-1)))), (a_15, .inl (G.2 0, 200, .inl (fun _ => 0))), (a_16, .inl (G.2 2, 1536, .inl (fun _ => 0)))] sz)) (va_Qi (fun (r : Int32) (u : va_W) => r.toInt = sp_lit p_c.toInt p_h.toInt p_w.toInt ∧ u = []) (g5_B G (va_A [(a_y, .inr (12, [.int 0, .int 0, .ref a_1, .ref a_2, .ref a_3, .ref a_4, .int 0, .ref a_5, .int 0, .int 0, .int 0, .int 0, .long 0, .int (-1), .int 0, .int 0, .ref a_6, .int 0, .ref a_7, .ref a_8, .int 0, .ref a_9, .ref a_10, .int 0, .int 0, .ref a_11, .ref a_12, .int 0, .ref a_13, .ref a_14, .int 0, .long 0, .long 0, .int 0, .int 0, .int 0, .int 0, .int 0, .ref a_15, .int 0, .int 0, .ref a_16, .int 0, .ref a_17, .ref a_18, .ref a_19, .int 0, .ref a_20, .ref a_21, .long 0, .ref a_22, .int 0])), (a_2, .inl (G.2 0, 5740, .inl (upd (upd (upd (fun _ => 0) 3 (-1)) 4 1000) 6 (-1)))), (a_15, .inl (G.2 0, 200, .inl (fun _ => 0))), (a_16, .inl (G.2 2, 1536, .inl (fun _ => 0)))] sz)) (va_A [(a_y, .inr (12, [.int 0, .int 0, .ref a_1, .ref a_2, .ref a_3, .ref a_4, .int 0, .ref a_5, .int 0, .int 0, .int 0, .int 0, .long 0, .int (-1), .int 0, .int 0, .ref a_6, .int 0, .ref a_7, .ref a_8, .int 0, .ref a_9, .ref a_10, .int 0, .int 0, .ref a_11, .ref a_12, .int 0, .ref a_13, .ref a_14, .int 0, .long 0, .long 0, .int 0, .int 0, .int 0, .int 0, .int 0, .ref a_15, .int 0, .int 0, .ref a_16, .int 0, .ref a_17, .ref a_18, .ref a_19, .int 0, .ref a_20, .ref a_21, .long 0, .ref a_22, .int 0])), (a_2, .inl (G.2 0, 5740, .inl (upd (upd (upd (fun _ => 0) 3 (-1)) 4 1000) 6 (-1)))), (a_15, .inl (G.2 0, 200, .inl (fun _ => 0))), (a_16, .inl (G.2 2, 1536, .inl (fun _ => 0)))] sz)) 0 0 (va_A [(a_y, .inr (12, [.int 0, .int 0, .ref a_1, .ref a_2, .ref a_3, .ref a_4, .int 0, .ref a_5, .int 0, .int 0, .int 0, .int 0, .long 0, .int (-1), .int 0, .int 0, .ref a_6, .int 0, .ref a_7, .ref a_8, .int 0, .ref a_9, .ref a_10, .int 0, .int 0, .ref a_11, .ref a_12, .int 0, .ref a_13, .ref a_14, .int 0, .long 0, .long 0, .int 0, .int 0, .int 0, .int 0, .int 0, .ref a_15, .int 0, .int 0, .ref a_16, .int 0, .ref a_17, .ref a_18, .ref a_19, .int 0, .ref a_20, .ref a_21, .long 0, .ref a_22, .int 0])), (a_2, .inl (G.2 0, 5740, .inl (upd (upd (upd (fun _ => 0) 3 (-1)) 4 1000) 6 (-1)))), (a_15, .inl (G.2 0, 200, .inl (fun _ => 0))), (a_16, .inl (G.2 2, 1536, .inl (fun _ => 0)))] sz) := by
  refine g5_wkI (k_mlit l G a_y a_2 a_15 a_16 a_1 a_3 a_4 a_5 a_6 a_7 a_8 a_9 a_10 a_11 a_12 a_13 a_14 a_17 a_18 a_19 a_20 a_21 a_22 sz p_c p_h p_w) (fun r u h => ?_)
  obtain ⟨z0, i1, hr, hu⟩ := h
  refine ⟨?_, hu⟩
  rw [hr]
  exact i1
set_option maxHeartbeats 4000000 in
set_option maxRecDepth 100000 in
theorem sM_unseen (l : Launch) (G : g5_G) (a_y a_2 a_16 a_1 a_3 a_4 a_5 a_6 a_7 a_8 a_9 a_10 a_11 a_12 a_13 a_14 a_15 a_17 a_18 a_19 a_20 a_21 a_22 : Nat) (sz : Nat) (p_c : Int32) : Met l yX12_unseen (wsG yX12_unseen cX12_unseen 4 (some .int)) ({ frames := 2, cells := 0, slots := 0, locals := 45 }) (va_Pc [.ref a_y, .int p_c] (g5_P G [(a_y, .inr (12, [.int 0, .int 0, .ref a_1, .ref a_2, .ref a_3, .ref a_4, .int 0, .ref a_5, .int 0, .int 0, .int 0, .int 0, .long 0, .int (-1), .int 0, .int 0, .ref a_6, .int 0, .ref a_7, .ref a_8, .int 0, .ref a_9, .ref a_10, .int 0, .int 0, .ref a_11, .ref a_12, .int 0, .ref a_13, .ref a_14, .int 0, .long 0, .long 0, .int 0, .int 0, .int 0, .int 0, .int 0, .ref a_15, .int 0, .int 0, .ref a_16, .int 0, .ref a_17, .ref a_18, .ref a_19, .int 0, .ref a_20, .ref a_21, .long 0, .ref a_22, .int 0])), (a_2, .inl (G.2 0, 5740, .inl (upd (upd (upd (fun _ => 0) 3 (-1)) 4 1000) 6 (-1)))), (a_16, .inl (G.2 2, 1536, .inl (fun _ => 0)))] sz)) (va_Qi (fun (r : Int32) (u : va_W) => r.toInt = sp_unseen p_c.toInt ∧ u = []) (g5_B G (va_A [(a_y, .inr (12, [.int 0, .int 0, .ref a_1, .ref a_2, .ref a_3, .ref a_4, .int 0, .ref a_5, .int 0, .int 0, .int 0, .int 0, .long 0, .int (-1), .int 0, .int 0, .ref a_6, .int 0, .ref a_7, .ref a_8, .int 0, .ref a_9, .ref a_10, .int 0, .int 0, .ref a_11, .ref a_12, .int 0, .ref a_13, .ref a_14, .int 0, .long 0, .long 0, .int 0, .int 0, .int 0, .int 0, .int 0, .ref a_15, .int 0, .int 0, .ref a_16, .int 0, .ref a_17, .ref a_18, .ref a_19, .int 0, .ref a_20, .ref a_21, .long 0, .ref a_22, .int 0])), (a_2, .inl (G.2 0, 5740, .inl (upd (upd (upd (fun _ => 0) 3 (-1)) 4 1000) 6 (-1)))), (a_16, .inl (G.2 2, 1536, .inl (fun _ => 0)))] sz)) (va_A [(a_y, .inr (12, [.int 0, .int 0, .ref a_1, .ref a_2, .ref a_3, .ref a_4, .int 0, .ref a_5, .int 0, .int 0, .int 0, .int 0, .long 0, .int (-1), .int 0, .int 0, .ref a_6, .int 0, .ref a_7, .ref a_8, .int 0, .ref a_9, .ref a_10, .int 0, .int 0, .ref a_11, .ref a_12, .int 0, .ref a_13, .ref a_14, .int 0, .long 0, .long 0, .int 0, .int 0, .int 0, .int 0, .int 0, .ref a_15, .int 0, .int 0, .ref a_16, .int 0, .ref a_17, .ref a_18, .ref a_19, .int 0, .ref a_20, .ref a_21, .long 0, .ref a_22, .int 0])), (a_2, .inl (G.2 0, 5740, .inl (upd (upd (upd (fun _ => 0) 3 (-1)) 4 1000) 6 (-1)))), (a_16, .inl (G.2 2, 1536, .inl (fun _ => 0)))] sz)) 0 0 (va_A [(a_y, .inr (12, [.int 0, .int 0, .ref a_1, .ref a_2, .ref a_3, .ref a_4, .int 0, .ref a_5, .int 0, .int 0, .int 0, .int 0, .long 0, .int (-1), .int 0, .int 0, .ref a_6, .int 0, .ref a_7, .ref a_8, .int 0, .ref a_9, .ref a_10, .int 0, .int 0, .ref a_11, .ref a_12, .int 0, .ref a_13, .ref a_14, .int 0, .long 0, .long 0, .int 0, .int 0, .int 0, .int 0, .int 0, .ref a_15, .int 0, .int 0, .ref a_16, .int 0, .ref a_17, .ref a_18, .ref a_19, .int 0, .ref a_20, .ref a_21, .long 0, .ref a_22, .int 0])), (a_2, .inl (G.2 0, 5740, .inl (upd (upd (upd (fun _ => 0) 3 (-1)) 4 1000) 6 (-1)))), (a_16, .inl (G.2 2, 1536, .inl (fun _ => 0)))] sz) := by
  refine g5_wkI (k_munseen l G a_y a_2 a_16 a_1 a_3 a_4 a_5 a_6 a_7 a_8 a_9 a_10 a_11 a_12 a_13 a_14 a_15 a_17 a_18 a_19 a_20 a_21 a_22 sz p_c) (fun r u h => ?_)
  obtain ⟨z0, i1, hr, hu⟩ := h
  refine ⟨?_, hu⟩
  rw [hr]
  exact i1
set_option maxHeartbeats 4000000 in
set_option maxRecDepth 100000 in
theorem sM_sighting (l : Launch) (G : g5_G) (a0 a1 a2 a3 a4 a5 a6 a7 a8 a9 a10 a11 a12 a13 a14 a15 a16 a17 a18 a19 a20 a21 a22 : Nat) (sz : Nat) (n0 : Int32) (n1 : Int32) (n2 : Int32) (n3 : Int32) : Met l yX12_sighting (wsG yX12_sighting cX12_sighting 8 (some .int)) ({ frames := 3, cells := 0, slots := 0, locals := 67 }) (va_Pc [.ref a0, .int n0, .int n1, .int n2, .int n3] (g5_P G [(a0, .inr (12, [.int 0, .int 0, .ref a1, .ref a2, .ref a3, .ref a4, .int 0, .ref a5, .int 0, .int 0, .int 0, .int 0, .long 0, .int (-1), .int 0, .int 0, .ref a6, .int 0, .ref a7, .ref a8, .int 0, .ref a9, .ref a10, .int 0, .int 0, .ref a11, .ref a12, .int 0, .ref a13, .ref a14, .int 0, .long 0, .long 0, .int 0, .int 0, .int 0, .int 0, .int 0, .ref a15, .int 0, .int 0, .ref a16, .int 0, .ref a17, .ref a18, .ref a19, .int 0, .ref a20, .ref a21, .long 0, .ref a22, .int 0])), (a1, .inl (G.2 0, 7, .inl (fun _ => 0))), (a2, .inl (G.2 0, 5740, .inl (upd (upd (upd (fun _ => 0) 3 (-1)) 4 1000) 6 (-1))))] sz)) (va_Qi (fun (r : Int32) (u : va_W) => r.toInt = sp_sighting n0.toInt n1.toInt n2.toInt n3.toInt ∧ u = []) (g5_B G (va_A [(a0, .inr (12, [.int 0, .int 0, .ref a1, .ref a2, .ref a3, .ref a4, .int 0, .ref a5, .int 0, .int 0, .int 0, .int 0, .long 0, .int (-1), .int 0, .int 0, .ref a6, .int 0, .ref a7, .ref a8, .int 0, .ref a9, .ref a10, .int 0, .int 0, .ref a11, .ref a12, .int 0, .ref a13, .ref a14, .int 0, .long 0, .long 0, .int 0, .int 0, .int 0, .int 0, .int 0, .ref a15, .int 0, .int 0, .ref a16, .int 0, .ref a17, .ref a18, .ref a19, .int 0, .ref a20, .ref a21, .long 0, .ref a22, .int 0])), (a1, .inl (G.2 0, 7, .inl (fun _ => 0))), (a2, .inl (G.2 0, 5740, .inl (upd (upd (upd (fun _ => 0) 3 (-1)) 4 1000) 6 (-1))))] sz)) (va_A [(a0, .inr (12, [.int 0, .int 0, .ref a1, .ref a2, .ref a3, .ref a4, .int 0, .ref a5, .int 0, .int 0, .int 0, .int 0, .long 0, .int (-1), .int 0, .int 0, .ref a6, .int 0, .ref a7, .ref a8, .int 0, .ref a9, .ref a10, .int 0, .int 0, .ref a11, .ref a12, .int 0, .ref a13, .ref a14, .int 0, .long 0, .long 0, .int 0, .int 0, .int 0, .int 0, .int 0, .ref a15, .int 0, .int 0, .ref a16, .int 0, .ref a17, .ref a18, .ref a19, .int 0, .ref a20, .ref a21, .long 0, .ref a22, .int 0])), (a1, .inl (G.2 0, 7, .inl (fun _ => 0))), (a2, .inl (G.2 0, 5740, .inl (upd (upd (upd (fun _ => 0) 3 (-1)) 4 1000) 6 (-1))))] sz)) 0 0 (va_A [(a0, .inr (12, [.int 0, .int 0, .ref a1, .ref a2, .ref a3, .ref a4, .int 0, .ref a5, .int 0, .int 0, .int 0, .int 0, .long 0, .int (-1), .int 0, .int 0, .ref a6, .int 0, .ref a7, .ref a8, .int 0, .ref a9, .ref a10, .int 0, .int 0, .ref a11, .ref a12, .int 0, .ref a13, .ref a14, .int 0, .long 0, .long 0, .int 0, .int 0, .int 0, .int 0, .int 0, .ref a15, .int 0, .int 0, .ref a16, .int 0, .ref a17, .ref a18, .ref a19, .int 0, .ref a20, .ref a21, .long 0, .ref a22, .int 0])), (a1, .inl (G.2 0, 7, .inl (fun _ => 0))), (a2, .inl (G.2 0, 5740, .inl (upd (upd (upd (fun _ => 0) 3 (-1)) 4 1000) 6 (-1))))] sz) := by
  refine g5_wkI (kX12_sighting l G a0 a1 a2 a3 a4 a5 a6 a7 a8 a9 a10 a11 a12 a13 a14 a15 a16 a17 a18 a19 a20 a21 a22 sz n0 n1 n2 n3) (fun r u h => ?_)
  rcases h with ⟨i0, hr, hu⟩ | ⟨i1, i2, hr, hu⟩ | ⟨i3, i4, i5, hr, hu⟩ | ⟨i6, i7, i8, i9, hr, hu⟩ | ⟨i10, i11, i12, i13, i14, hr, hu⟩ | ⟨i15, i16, i17, i18, i19, hr, hu⟩
  · refine ⟨?_, hu⟩
    rw [hr]
    rw [show ((-1) : Int32).toInt = (-1) from by decide]
    unfold sp_sighting; omega
  · refine ⟨?_, hu⟩
    rw [hr]
    rw [show ((-1) : Int32).toInt = (-1) from by decide]
    unfold sp_sighting; omega
  · refine ⟨?_, hu⟩
    rw [hr]
    rw [show ((-1) : Int32).toInt = (-1) from by decide]
    unfold sp_sighting; omega
  · refine ⟨?_, hu⟩
    rw [hr]
    rw [show ((-1) : Int32).toInt = (-1) from by decide]
    unfold sp_sighting; omega
  · refine ⟨?_, hu⟩
    rw [hr]
    rw [show (1 : Int32).toInt = 1 from by decide]
    unfold sp_sighting; omega
  · refine ⟨?_, hu⟩
    rw [hr]
    rw [show (1 : Int32).toInt = 1 from by decide]
    unfold sp_sighting; omega
set_option maxHeartbeats 4000000 in
set_option maxRecDepth 100000 in
theorem sM_drop (l : Launch) (G : g5_G) (a0 a1 a2 a3 a4 a5 a6 a7 a8 a9 a10 a11 a12 a13 a14 a15 a16 a17 a18 a19 a20 a21 a22 : Nat) (sz : Nat) (n0 : Int32) : Met l yX12_drop (wsG yX12_drop cX12_drop 3 (some .int)) ({ frames := 1, cells := 0, slots := 0, locals := 25 }) (va_Pc [.ref a0, .int n0] (g5_P G [(a0, .inr (12, [.int 0, .int 0, .ref a1, .ref a2, .ref a3, .ref a4, .int 0, .ref a5, .int 0, .int 0, .int 0, .int 0, .long 0, .int (-1), .int 0, .int 0, .ref a6, .int 0, .ref a7, .ref a8, .int 0, .ref a9, .ref a10, .int 0, .int 0, .ref a11, .ref a12, .int 0, .ref a13, .ref a14, .int 0, .long 0, .long 0, .int 0, .int 0, .int 0, .int 0, .int 0, .ref a15, .int 0, .int 0, .ref a16, .int 0, .ref a17, .ref a18, .ref a19, .int 0, .ref a20, .ref a21, .long 0, .ref a22, .int 0])), (a2, .inl (G.2 0, 5740, .inl (upd (upd (upd (fun _ => 0) 3 (-1)) 4 1000) 6 (-1)))), (a1, .inl (G.2 0, 7, .inl (fun _ => 0)))] sz)) (va_Qi (fun (r : Int32) (u : va_W) => r.toInt = sp_drop n0.toInt ∧ u = []) (g5_B G (va_A [(a0, .inr (12, [.int 0, .int 0, .ref a1, .ref a2, .ref a3, .ref a4, .int 0, .ref a5, .int 0, .int 0, .int 0, .int 0, .long 0, .int (-1), .int 0, .int 0, .ref a6, .int 0, .ref a7, .ref a8, .int 0, .ref a9, .ref a10, .int 0, .int 0, .ref a11, .ref a12, .int 0, .ref a13, .ref a14, .int 0, .long 0, .long 0, .int 0, .int 0, .int 0, .int 0, .int 0, .ref a15, .int 0, .int 0, .ref a16, .int 0, .ref a17, .ref a18, .ref a19, .int 0, .ref a20, .ref a21, .long 0, .ref a22, .int 0])), (a2, .inl (G.2 0, 5740, .inl (upd (upd (upd (fun _ => 0) 3 (-1)) 4 1000) 6 (-1)))), (a1, .inl (G.2 0, 7, .inl (fun _ => 0)))] sz)) (va_A [(a0, .inr (12, [.int 0, .int 0, .ref a1, .ref a2, .ref a3, .ref a4, .int 0, .ref a5, .int 0, .int 0, .int 0, .int 0, .long 0, .int (-1), .int 0, .int 0, .ref a6, .int 0, .ref a7, .ref a8, .int 0, .ref a9, .ref a10, .int 0, .int 0, .ref a11, .ref a12, .int 0, .ref a13, .ref a14, .int 0, .long 0, .long 0, .int 0, .int 0, .int 0, .int 0, .int 0, .ref a15, .int 0, .int 0, .ref a16, .int 0, .ref a17, .ref a18, .ref a19, .int 0, .ref a20, .ref a21, .long 0, .ref a22, .int 0])), (a2, .inl (G.2 0, 5740, .inl (upd (upd (upd (fun _ => 0) 3 (-1)) 4 1000) 6 (-1)))), (a1, .inl (G.2 0, 7, .inl (fun _ => 0)))] sz)) 0 0 (va_A [(a0, .inr (12, [.int 0, .int 0, .ref a1, .ref a2, .ref a3, .ref a4, .int 0, .ref a5, .int 0, .int 0, .int 0, .int 0, .long 0, .int (-1), .int 0, .int 0, .ref a6, .int 0, .ref a7, .ref a8, .int 0, .ref a9, .ref a10, .int 0, .int 0, .ref a11, .ref a12, .int 0, .ref a13, .ref a14, .int 0, .long 0, .long 0, .int 0, .int 0, .int 0, .int 0, .int 0, .ref a15, .int 0, .int 0, .ref a16, .int 0, .ref a17, .ref a18, .ref a19, .int 0, .ref a20, .ref a21, .long 0, .ref a22, .int 0])), (a2, .inl (G.2 0, 5740, .inl (upd (upd (upd (fun _ => 0) 3 (-1)) 4 1000) 6 (-1)))), (a1, .inl (G.2 0, 7, .inl (fun _ => 0)))] sz) := by
  refine g5_wkI (kX12_drop l G a0 a1 a2 a3 a4 a5 a6 a7 a8 a9 a10 a11 a12 a13 a14 a15 a16 a17 a18 a19 a20 a21 a22 sz n0) (fun r u h => ?_)
  obtain ⟨i0, hr, hu⟩ := h
  refine ⟨?_, hu⟩
  rw [hr]
  rw [show ((-2) : Int32).toInt = (-2) from by decide]
  unfold sp_drop; omega
set_option maxHeartbeats 4000000 in
set_option maxRecDepth 100000 in
theorem sM_start (l : Launch) (G : g5_G) (a0 a1 a2 a3 a4 a5 a6 a7 a8 a9 a10 a11 a12 a13 a14 a15 a16 a17 a18 a19 a20 a21 a22 : Nat) (sz : Nat) (n0 : Int32) : Met l yX12_start (wsG yX12_start cX12_start 2 (some .int)) ({ frames := 2, cells := 0, slots := 0, locals := 44 }) (va_Pc [.ref a0, .int n0] (g5_P G [(a0, .inr (12, [.int 0, .int 0, .ref a1, .ref a2, .ref a3, .ref a4, .int 0, .ref a5, .int 0, .int 0, .int 0, .int 0, .long 0, .int (-1), .int 0, .int 0, .ref a6, .int 0, .ref a7, .ref a8, .int 0, .ref a9, .ref a10, .int 0, .int 0, .ref a11, .ref a12, .int 0, .ref a13, .ref a14, .int 0, .long 0, .long 0, .int 0, .int 0, .int 0, .int 0, .int 0, .ref a15, .int 0, .int 0, .ref a16, .int 0, .ref a17, .ref a18, .ref a19, .int 0, .ref a20, .ref a21, .long 0, .ref a22, .int 0])), (a1, .inl (G.2 0, 7, .inl (fun _ => 0))), (a2, .inl (G.2 0, 5740, .inl (upd (upd (upd (fun _ => 0) 3 (-1)) 4 1000) 6 (-1))))] sz)) (va_Qi (fun (r : Int32) (u : va_W) => r.toInt = sp_start n0.toInt ∧ u = []) (g5_B G (va_A [(a0, .inr (12, [.int 0, .int 0, .ref a1, .ref a2, .ref a3, .ref a4, .int 0, .ref a5, .int 0, .int 0, .int 0, .int 0, .long 0, .int (-1), .int 0, .int 0, .ref a6, .int 0, .ref a7, .ref a8, .int 0, .ref a9, .ref a10, .int 0, .int 0, .ref a11, .ref a12, .int 0, .ref a13, .ref a14, .int 0, .long 0, .long 0, .int 0, .int 0, .int 0, .int 0, .int 0, .ref a15, .int 0, .int 0, .ref a16, .int 0, .ref a17, .ref a18, .ref a19, .int 0, .ref a20, .ref a21, .long 0, .ref a22, .int 0])), (a1, .inl (G.2 0, 7, .inl (fun _ => 0))), (a2, .inl (G.2 0, 5740, .inl (upd (upd (upd (fun _ => 0) 3 (-1)) 4 1000) 6 (-1))))] sz)) (va_A [(a0, .inr (12, [.int 0, .int 0, .ref a1, .ref a2, .ref a3, .ref a4, .int 0, .ref a5, .int 0, .int 0, .int 0, .int 0, .long 0, .int (-1), .int 0, .int 0, .ref a6, .int 0, .ref a7, .ref a8, .int 0, .ref a9, .ref a10, .int 0, .int 0, .ref a11, .ref a12, .int 0, .ref a13, .ref a14, .int 0, .long 0, .long 0, .int 0, .int 0, .int 0, .int 0, .int 0, .ref a15, .int 0, .int 0, .ref a16, .int 0, .ref a17, .ref a18, .ref a19, .int 0, .ref a20, .ref a21, .long 0, .ref a22, .int 0])), (a1, .inl (G.2 0, 7, .inl (fun _ => 0))), (a2, .inl (G.2 0, 5740, .inl (upd (upd (upd (fun _ => 0) 3 (-1)) 4 1000) 6 (-1))))] sz)) 0 0 (va_A [(a0, .inr (12, [.int 0, .int 0, .ref a1, .ref a2, .ref a3, .ref a4, .int 0, .ref a5, .int 0, .int 0, .int 0, .int 0, .long 0, .int (-1), .int 0, .int 0, .ref a6, .int 0, .ref a7, .ref a8, .int 0, .ref a9, .ref a10, .int 0, .int 0, .ref a11, .ref a12, .int 0, .ref a13, .ref a14, .int 0, .long 0, .long 0, .int 0, .int 0, .int 0, .int 0, .int 0, .ref a15, .int 0, .int 0, .ref a16, .int 0, .ref a17, .ref a18, .ref a19, .int 0, .ref a20, .ref a21, .long 0, .ref a22, .int 0])), (a1, .inl (G.2 0, 7, .inl (fun _ => 0))), (a2, .inl (G.2 0, 5740, .inl (upd (upd (upd (fun _ => 0) 3 (-1)) 4 1000) 6 (-1))))] sz) := by
  refine g5_wkI (kX12_start l G a0 a1 a2 a3 a4 a5 a6 a7 a8 a9 a10 a11 a12 a13 a14 a15 a16 a17 a18 a19 a20 a21 a22 sz n0) (fun r u h => ?_)
  rcases h with ⟨i0, hr, hu⟩ | ⟨i1, i2, hr, hu⟩ | ⟨i3, i4, i5, hr, hu⟩
  · refine ⟨?_, hu⟩
    rw [hr]
    rw [show ((-1) : Int32).toInt = (-1) from by decide]
    unfold sp_start; omega
  · refine ⟨?_, hu⟩
    rw [hr]
    rw [show ((-1) : Int32).toInt = (-1) from by decide]
    unfold sp_start; omega
  · refine ⟨?_, hu⟩
    rw [hr]
    rw [show ((-1) : Int32).toInt = (-1) from by decide]
    unfold sp_start; omega
set_option maxHeartbeats 4000000 in
set_option maxRecDepth 100000 in
theorem sM_spot (l : Launch) (G : g5_G) (a0 a1 a2 a3 a4 a5 a6 a7 a8 a9 a10 a11 a12 a13 a14 a15 a16 a17 a18 a19 a20 a21 a22 : Nat) (sz : Nat) (n0 : Int32) (n1 : Int32) (n2 : Int32) : Met l yX12_spot (wsG yX12_spot cX12_spot 5 (some .int)) ({ frames := 2, cells := 0, slots := 0, locals := 46 }) (va_Pc [.ref a0, .int n0, .int n1, .int n2] (g5_P G [(a0, .inr (12, [.int 0, .int 0, .ref a1, .ref a2, .ref a3, .ref a4, .int 0, .ref a5, .int 0, .int 0, .int 0, .int 0, .long 0, .int (-1), .int 0, .int 0, .ref a6, .int 0, .ref a7, .ref a8, .int 0, .ref a9, .ref a10, .int 0, .int 0, .ref a11, .ref a12, .int 0, .ref a13, .ref a14, .int 0, .long 0, .long 0, .int 0, .int 0, .int 0, .int 0, .int 0, .ref a15, .int 0, .int 0, .ref a16, .int 0, .ref a17, .ref a18, .ref a19, .int 0, .ref a20, .ref a21, .long 0, .ref a22, .int 0])), (a1, .inl (G.2 0, 7, .inl (fun _ => 0))), (a2, .inl (G.2 0, 5740, .inl (upd (upd (upd (fun _ => 0) 3 (-1)) 4 1000) 6 (-1))))] sz)) (va_Qi (fun (r : Int32) (u : va_W) => r.toInt = sp_spot n0.toInt n1.toInt n2.toInt ∧ u = []) (g5_B G (va_A [(a0, .inr (12, [.int 0, .int 0, .ref a1, .ref a2, .ref a3, .ref a4, .int 0, .ref a5, .int 0, .int 0, .int 0, .int 0, .long 0, .int (-1), .int 0, .int 0, .ref a6, .int 0, .ref a7, .ref a8, .int 0, .ref a9, .ref a10, .int 0, .int 0, .ref a11, .ref a12, .int 0, .ref a13, .ref a14, .int 0, .long 0, .long 0, .int 0, .int 0, .int 0, .int 0, .int 0, .ref a15, .int 0, .int 0, .ref a16, .int 0, .ref a17, .ref a18, .ref a19, .int 0, .ref a20, .ref a21, .long 0, .ref a22, .int 0])), (a1, .inl (G.2 0, 7, .inl (fun _ => 0))), (a2, .inl (G.2 0, 5740, .inl (upd (upd (upd (fun _ => 0) 3 (-1)) 4 1000) 6 (-1))))] sz)) (va_A [(a0, .inr (12, [.int 0, .int 0, .ref a1, .ref a2, .ref a3, .ref a4, .int 0, .ref a5, .int 0, .int 0, .int 0, .int 0, .long 0, .int (-1), .int 0, .int 0, .ref a6, .int 0, .ref a7, .ref a8, .int 0, .ref a9, .ref a10, .int 0, .int 0, .ref a11, .ref a12, .int 0, .ref a13, .ref a14, .int 0, .long 0, .long 0, .int 0, .int 0, .int 0, .int 0, .int 0, .ref a15, .int 0, .int 0, .ref a16, .int 0, .ref a17, .ref a18, .ref a19, .int 0, .ref a20, .ref a21, .long 0, .ref a22, .int 0])), (a1, .inl (G.2 0, 7, .inl (fun _ => 0))), (a2, .inl (G.2 0, 5740, .inl (upd (upd (upd (fun _ => 0) 3 (-1)) 4 1000) 6 (-1))))] sz)) 0 0 (va_A [(a0, .inr (12, [.int 0, .int 0, .ref a1, .ref a2, .ref a3, .ref a4, .int 0, .ref a5, .int 0, .int 0, .int 0, .int 0, .long 0, .int (-1), .int 0, .int 0, .ref a6, .int 0, .ref a7, .ref a8, .int 0, .ref a9, .ref a10, .int 0, .int 0, .ref a11, .ref a12, .int 0, .ref a13, .ref a14, .int 0, .long 0, .long 0, .int 0, .int 0, .int 0, .int 0, .int 0, .ref a15, .int 0, .int 0, .ref a16, .int 0, .ref a17, .ref a18, .ref a19, .int 0, .ref a20, .ref a21, .long 0, .ref a22, .int 0])), (a1, .inl (G.2 0, 7, .inl (fun _ => 0))), (a2, .inl (G.2 0, 5740, .inl (upd (upd (upd (fun _ => 0) 3 (-1)) 4 1000) 6 (-1))))] sz) := by
  refine g5_wkI (kX12_spot l G a0 a1 a2 a3 a4 a5 a6 a7 a8 a9 a10 a11 a12 a13 a14 a15 a16 a17 a18 a19 a20 a21 a22 sz n0 n1 n2) (fun r u h => ?_)
  rcases h with ⟨i0, hr, hu⟩ | ⟨i1, i2, hr, hu⟩ | ⟨i3, i4, i5, hr, hu⟩ | ⟨i6, i7, i8, hr, hu⟩
  · refine ⟨?_, hu⟩
    rw [hr]
    rw [show ((-1) : Int32).toInt = (-1) from by decide]
    unfold sp_spot; omega
  · refine ⟨?_, hu⟩
    rw [hr]
    rw [show ((-1) : Int32).toInt = (-1) from by decide]
    unfold sp_spot; omega
  · refine ⟨?_, hu⟩
    rw [hr]
    rw [show ((-1) : Int32).toInt = (-1) from by decide]
    unfold sp_spot; omega
  · refine ⟨?_, hu⟩
    rw [hr]
    rw [show (0 : Int32).toInt = 0 from by decide]
    unfold sp_spot; omega
set_option maxHeartbeats 4000000 in
set_option maxRecDepth 100000 in
theorem sM_wish (l : Launch) (G : g5_G) (a0 a1 a2 a3 a4 a5 a6 a7 a8 a9 a10 a11 a12 a13 a14 a15 a16 a17 a18 a19 a20 a21 a22 : Nat) (sz : Nat) (n0 : Int32) (n1 : Int32) (n2 : Int32) (n3 : Int32) (n4 : Int32) (n5 : Int32) : Met l yX12_wish (wsG yX12_wish cX12_wish 9 (some .int)) ({ frames := 3, cells := 0, slots := 0, locals := 67 }) (va_Pc [.ref a0, .int n0, .int n1, .int n2, .int n3, .int n4, .int n5] (g5_P G [(a0, .inr (12, [.int 0, .int 0, .ref a1, .ref a2, .ref a3, .ref a4, .int 0, .ref a5, .int 0, .int 0, .int 0, .int 0, .long 0, .int (-1), .int 0, .int 0, .ref a6, .int 0, .ref a7, .ref a8, .int 0, .ref a9, .ref a10, .int 0, .int 0, .ref a11, .ref a12, .int 0, .ref a13, .ref a14, .int 0, .long 0, .long 0, .int 0, .int 0, .int 0, .int 0, .int 0, .ref a15, .int 0, .int 0, .ref a16, .int 0, .ref a17, .ref a18, .ref a19, .int 0, .ref a20, .ref a21, .long 0, .ref a22, .int 0])), (a1, .inl (G.2 0, 7, .inl (fun _ => 0))), (a2, .inl (G.2 0, 5740, .inl (upd (upd (upd (fun _ => 0) 3 (-1)) 4 1000) 6 (-1))))] sz)) (va_Qi (fun (r : Int32) (u : va_W) => r.toInt = sp_wish n0.toInt n1.toInt n2.toInt n3.toInt n4.toInt n5.toInt ∧ u = []) (g5_B G (va_A [(a0, .inr (12, [.int 0, .int 0, .ref a1, .ref a2, .ref a3, .ref a4, .int 0, .ref a5, .int 0, .int 0, .int 0, .int 0, .long 0, .int (-1), .int 0, .int 0, .ref a6, .int 0, .ref a7, .ref a8, .int 0, .ref a9, .ref a10, .int 0, .int 0, .ref a11, .ref a12, .int 0, .ref a13, .ref a14, .int 0, .long 0, .long 0, .int 0, .int 0, .int 0, .int 0, .int 0, .ref a15, .int 0, .int 0, .ref a16, .int 0, .ref a17, .ref a18, .ref a19, .int 0, .ref a20, .ref a21, .long 0, .ref a22, .int 0])), (a1, .inl (G.2 0, 7, .inl (fun _ => 0))), (a2, .inl (G.2 0, 5740, .inl (upd (upd (upd (fun _ => 0) 3 (-1)) 4 1000) 6 (-1))))] sz)) (va_A [(a0, .inr (12, [.int 0, .int 0, .ref a1, .ref a2, .ref a3, .ref a4, .int 0, .ref a5, .int 0, .int 0, .int 0, .int 0, .long 0, .int (-1), .int 0, .int 0, .ref a6, .int 0, .ref a7, .ref a8, .int 0, .ref a9, .ref a10, .int 0, .int 0, .ref a11, .ref a12, .int 0, .ref a13, .ref a14, .int 0, .long 0, .long 0, .int 0, .int 0, .int 0, .int 0, .int 0, .ref a15, .int 0, .int 0, .ref a16, .int 0, .ref a17, .ref a18, .ref a19, .int 0, .ref a20, .ref a21, .long 0, .ref a22, .int 0])), (a1, .inl (G.2 0, 7, .inl (fun _ => 0))), (a2, .inl (G.2 0, 5740, .inl (upd (upd (upd (fun _ => 0) 3 (-1)) 4 1000) 6 (-1))))] sz)) 0 0 (va_A [(a0, .inr (12, [.int 0, .int 0, .ref a1, .ref a2, .ref a3, .ref a4, .int 0, .ref a5, .int 0, .int 0, .int 0, .int 0, .long 0, .int (-1), .int 0, .int 0, .ref a6, .int 0, .ref a7, .ref a8, .int 0, .ref a9, .ref a10, .int 0, .int 0, .ref a11, .ref a12, .int 0, .ref a13, .ref a14, .int 0, .long 0, .long 0, .int 0, .int 0, .int 0, .int 0, .int 0, .ref a15, .int 0, .int 0, .ref a16, .int 0, .ref a17, .ref a18, .ref a19, .int 0, .ref a20, .ref a21, .long 0, .ref a22, .int 0])), (a1, .inl (G.2 0, 7, .inl (fun _ => 0))), (a2, .inl (G.2 0, 5740, .inl (upd (upd (upd (fun _ => 0) 3 (-1)) 4 1000) 6 (-1))))] sz) := by
  refine g5_wkI (kX12_wish l G a0 a1 a2 a3 a4 a5 a6 a7 a8 a9 a10 a11 a12 a13 a14 a15 a16 a17 a18 a19 a20 a21 a22 sz n0 n1 n2 n3 n4 n5) (fun r u h => ?_)
  rcases h with ⟨i0, hr, hu⟩ | ⟨i1, i2, hr, hu⟩ | ⟨i3, i4, i5, hr, hu⟩ | ⟨i6, i7, i8, i9, hr, hu⟩ | ⟨i10, i11, i12, i13, i14, hr, hu⟩ | ⟨i15, i16, i17, i18, i19, i20, hr, hu⟩ | ⟨i21, i22, i23, i24, i25, i26, hr, hu⟩
  · refine ⟨?_, hu⟩
    rw [hr]
    rw [show ((-1) : Int32).toInt = (-1) from by decide]
    unfold sp_wish; omega
  · refine ⟨?_, hu⟩
    rw [hr]
    rw [show ((-1) : Int32).toInt = (-1) from by decide]
    unfold sp_wish; omega
  · refine ⟨?_, hu⟩
    rw [hr]
    rw [show ((-1) : Int32).toInt = (-1) from by decide]
    unfold sp_wish; omega
  · refine ⟨?_, hu⟩
    rw [hr]
    rw [show ((-1) : Int32).toInt = (-1) from by decide]
    unfold sp_wish; omega
  · refine ⟨?_, hu⟩
    rw [hr]
    rw [show ((-1) : Int32).toInt = (-1) from by decide]
    unfold sp_wish; omega
  · refine ⟨?_, hu⟩
    rw [hr]
    rw [show ((-1) : Int32).toInt = (-1) from by decide]
    unfold sp_wish; omega
  · refine ⟨?_, hu⟩
    rw [hr]
    rw [show (1 : Int32).toInt = 1 from by decide]
    unfold sp_wish; omega
set_option maxHeartbeats 4000000 in
set_option maxRecDepth 100000 in
theorem sM_lacks (l : Launch) (G : g5_G) (a0 a1 a2 a3 a4 a5 a6 a7 a8 a9 a10 a11 a12 a13 a14 a15 a16 a17 a18 a19 a20 a21 a22 : Nat) (sz : Nat) (n0 : Int32) : Met l yX12_lacks (wsG yX12_lacks cX12_lacks 2 (some .int)) ({ frames := 2, cells := 0, slots := 0, locals := 46 }) (va_Pc [.ref a0, .int n0] (g5_P G [(a0, .inr (12, [.int 0, .int 0, .ref a1, .ref a2, .ref a3, .ref a4, .int 0, .ref a5, .int 0, .int 0, .int 0, .int 0, .long 0, .int (-1), .int 0, .int 0, .ref a6, .int 0, .ref a7, .ref a8, .int 0, .ref a9, .ref a10, .int 0, .int 0, .ref a11, .ref a12, .int 0, .ref a13, .ref a14, .int 0, .long 0, .long 0, .int 0, .int 0, .int 0, .int 0, .int 0, .ref a15, .int 0, .int 0, .ref a16, .int 0, .ref a17, .ref a18, .ref a19, .int 0, .ref a20, .ref a21, .long 0, .ref a22, .int 0])), (a2, .inl (G.2 0, 5740, .inl (upd (upd (upd (fun _ => 0) 3 (-1)) 4 1000) 6 (-1))))] sz)) (va_Qi (fun (r : Int32) (u : va_W) => r.toInt = sp_lacks n0.toInt ∧ u = []) (g5_B G (va_A [(a0, .inr (12, [.int 0, .int 0, .ref a1, .ref a2, .ref a3, .ref a4, .int 0, .ref a5, .int 0, .int 0, .int 0, .int 0, .long 0, .int (-1), .int 0, .int 0, .ref a6, .int 0, .ref a7, .ref a8, .int 0, .ref a9, .ref a10, .int 0, .int 0, .ref a11, .ref a12, .int 0, .ref a13, .ref a14, .int 0, .long 0, .long 0, .int 0, .int 0, .int 0, .int 0, .int 0, .ref a15, .int 0, .int 0, .ref a16, .int 0, .ref a17, .ref a18, .ref a19, .int 0, .ref a20, .ref a21, .long 0, .ref a22, .int 0])), (a2, .inl (G.2 0, 5740, .inl (upd (upd (upd (fun _ => 0) 3 (-1)) 4 1000) 6 (-1))))] sz)) (va_A [(a0, .inr (12, [.int 0, .int 0, .ref a1, .ref a2, .ref a3, .ref a4, .int 0, .ref a5, .int 0, .int 0, .int 0, .int 0, .long 0, .int (-1), .int 0, .int 0, .ref a6, .int 0, .ref a7, .ref a8, .int 0, .ref a9, .ref a10, .int 0, .int 0, .ref a11, .ref a12, .int 0, .ref a13, .ref a14, .int 0, .long 0, .long 0, .int 0, .int 0, .int 0, .int 0, .int 0, .ref a15, .int 0, .int 0, .ref a16, .int 0, .ref a17, .ref a18, .ref a19, .int 0, .ref a20, .ref a21, .long 0, .ref a22, .int 0])), (a2, .inl (G.2 0, 5740, .inl (upd (upd (upd (fun _ => 0) 3 (-1)) 4 1000) 6 (-1))))] sz)) 0 0 (va_A [(a0, .inr (12, [.int 0, .int 0, .ref a1, .ref a2, .ref a3, .ref a4, .int 0, .ref a5, .int 0, .int 0, .int 0, .int 0, .long 0, .int (-1), .int 0, .int 0, .ref a6, .int 0, .ref a7, .ref a8, .int 0, .ref a9, .ref a10, .int 0, .int 0, .ref a11, .ref a12, .int 0, .ref a13, .ref a14, .int 0, .long 0, .long 0, .int 0, .int 0, .int 0, .int 0, .int 0, .ref a15, .int 0, .int 0, .ref a16, .int 0, .ref a17, .ref a18, .ref a19, .int 0, .ref a20, .ref a21, .long 0, .ref a22, .int 0])), (a2, .inl (G.2 0, 5740, .inl (upd (upd (upd (fun _ => 0) 3 (-1)) 4 1000) 6 (-1))))] sz) := by
  refine g5_wkI (kX12_lacks l G a0 a1 a2 a3 a4 a5 a6 a7 a8 a9 a10 a11 a12 a13 a14 a15 a16 a17 a18 a19 a20 a21 a22 sz n0) (fun r u h => ?_)
  rcases h with ⟨i0, hr, hu⟩ | ⟨i1, hr, hu⟩
  · refine ⟨?_, hu⟩
    rw [hr]
    rw [show ((-1) : Int32).toInt = (-1) from by decide]
    unfold sp_lacks; omega
  · refine ⟨?_, hu⟩
    rw [hr]
    rw [show (0 : Int32).toInt = 0 from by decide]
    unfold sp_lacks; omega
set_option maxHeartbeats 4000000 in
set_option maxRecDepth 100000 in
theorem sM_hang (l : Launch) (G : g5_G) (a0 a1 a2 a3 a4 a5 a6 a7 a8 a9 a10 a11 a12 a13 a14 a15 a16 a17 a18 a19 a20 a21 a22 : Nat) (sz : Nat) (n0 : Int32) : Met l yX12_hang (wsG yX12_hang cX12_hang 7 (some .int)) ({ frames := 1, cells := 0, slots := 0, locals := 26 }) (va_Pc [.ref a0, .int n0] (g5_P G [(a0, .inr (12, [.int 0, .int 0, .ref a1, .ref a2, .ref a3, .ref a4, .int 0, .ref a5, .int 0, .int 0, .int 0, .int 0, .long 0, .int (-1), .int 0, .int 0, .ref a6, .int 0, .ref a7, .ref a8, .int 0, .ref a9, .ref a10, .int 0, .int 0, .ref a11, .ref a12, .int 0, .ref a13, .ref a14, .int 0, .long 0, .long 0, .int 0, .int 0, .int 0, .int 0, .int 0, .ref a15, .int 0, .int 0, .ref a16, .int 0, .ref a17, .ref a18, .ref a19, .int 0, .ref a20, .ref a21, .long 0, .ref a22, .int 0])), (a2, .inl (G.2 0, 5740, .inl (upd (upd (upd (fun _ => 0) 3 (-1)) 4 1000) 6 (-1))))] sz)) (va_Qi (fun (r : Int32) (u : va_W) => r.toInt = sp_hang n0.toInt ∧ u = []) (g5_B G (va_A [(a0, .inr (12, [.int 0, .int 0, .ref a1, .ref a2, .ref a3, .ref a4, .int 0, .ref a5, .int 0, .int 0, .int 0, .int 0, .long 0, .int (-1), .int 0, .int 0, .ref a6, .int 0, .ref a7, .ref a8, .int 0, .ref a9, .ref a10, .int 0, .int 0, .ref a11, .ref a12, .int 0, .ref a13, .ref a14, .int 0, .long 0, .long 0, .int 0, .int 0, .int 0, .int 0, .int 0, .ref a15, .int 0, .int 0, .ref a16, .int 0, .ref a17, .ref a18, .ref a19, .int 0, .ref a20, .ref a21, .long 0, .ref a22, .int 0])), (a2, .inl (G.2 0, 5740, .inl (upd (upd (upd (fun _ => 0) 3 (-1)) 4 1000) 6 (-1))))] sz)) (va_A [(a0, .inr (12, [.int 0, .int 0, .ref a1, .ref a2, .ref a3, .ref a4, .int 0, .ref a5, .int 0, .int 0, .int 0, .int 0, .long 0, .int (-1), .int 0, .int 0, .ref a6, .int 0, .ref a7, .ref a8, .int 0, .ref a9, .ref a10, .int 0, .int 0, .ref a11, .ref a12, .int 0, .ref a13, .ref a14, .int 0, .long 0, .long 0, .int 0, .int 0, .int 0, .int 0, .int 0, .ref a15, .int 0, .int 0, .ref a16, .int 0, .ref a17, .ref a18, .ref a19, .int 0, .ref a20, .ref a21, .long 0, .ref a22, .int 0])), (a2, .inl (G.2 0, 5740, .inl (upd (upd (upd (fun _ => 0) 3 (-1)) 4 1000) 6 (-1))))] sz)) 0 0 (va_A [(a0, .inr (12, [.int 0, .int 0, .ref a1, .ref a2, .ref a3, .ref a4, .int 0, .ref a5, .int 0, .int 0, .int 0, .int 0, .long 0, .int (-1), .int 0, .int 0, .ref a6, .int 0, .ref a7, .ref a8, .int 0, .ref a9, .ref a10, .int 0, .int 0, .ref a11, .ref a12, .int 0, .ref a13, .ref a14, .int 0, .long 0, .long 0, .int 0, .int 0, .int 0, .int 0, .int 0, .ref a15, .int 0, .int 0, .ref a16, .int 0, .ref a17, .ref a18, .ref a19, .int 0, .ref a20, .ref a21, .long 0, .ref a22, .int 0])), (a2, .inl (G.2 0, 5740, .inl (upd (upd (upd (fun _ => 0) 3 (-1)) 4 1000) 6 (-1))))] sz) := by
  refine g5_wkI (kX12_hang l G a0 a1 a2 a3 a4 a5 a6 a7 a8 a9 a10 a11 a12 a13 a14 a15 a16 a17 a18 a19 a20 a21 a22 sz n0) (fun r u h => ?_)
  rcases h with ⟨i0, hr, hu⟩ | ⟨i1, i2, i3, hr, hu⟩ | ⟨i4, i5, i6, hr, hu⟩ | ⟨i7, i8, hr, hu⟩
  · refine ⟨?_, hu⟩
    rw [hr]
    rw [show ((-1) : Int32).toInt = (-1) from by decide]
    unfold sp_hang; omega
  · refine ⟨?_, hu⟩
    rw [hr]
    rw [show (0 : Int32).toInt = 0 from by decide]
    unfold sp_hang; omega
  · refine ⟨?_, hu⟩
    rw [hr]
    rw [show (1 : Int32).toInt = 1 from by decide]
    unfold sp_hang; omega
  · refine ⟨?_, hu⟩
    rw [hr]
    rw [show (0 : Int32).toInt = 0 from by decide]
    unfold sp_hang; omega
set_option maxHeartbeats 4000000 in
set_option maxRecDepth 100000 in
theorem sM_soonest (l : Launch) (G : g5_G) (a0 a1 a2 a3 a4 a5 a6 a7 a8 a9 a10 a11 a12 a13 a14 a15 a16 a17 a18 a19 a20 a21 a22 : Nat) (sz : Nat) (n0 : Int32) (n1 : Int32) (n2 : Int32) : Met l yX12_soonest (wsG yX12_soonest cX12_soonest 4 (some .int)) ({ frames := 2, cells := 0, slots := 0, locals := 46 }) (va_Pc [.ref a0, .int n0, .int n1, .int n2] (g5_P G [(a0, .inr (12, [.int 0, .int 0, .ref a1, .ref a2, .ref a3, .ref a4, .int 0, .ref a5, .int 0, .int 0, .int 0, .int 0, .long 0, .int (-1), .int 0, .int 0, .ref a6, .int 0, .ref a7, .ref a8, .int 0, .ref a9, .ref a10, .int 0, .int 0, .ref a11, .ref a12, .int 0, .ref a13, .ref a14, .int 0, .long 0, .long 0, .int 0, .int 0, .int 0, .int 0, .int 0, .ref a15, .int 0, .int 0, .ref a16, .int 0, .ref a17, .ref a18, .ref a19, .int 0, .ref a20, .ref a21, .long 0, .ref a22, .int 0])), (a2, .inl (G.2 0, 5740, .inl (upd (upd (upd (fun _ => 0) 3 (-1)) 4 1000) 6 (-1))))] sz)) (va_Qi (fun (r : Int32) (u : va_W) => r.toInt = sp_soonest n0.toInt n1.toInt n2.toInt ∧ u = []) (g5_B G (va_A [(a0, .inr (12, [.int 0, .int 0, .ref a1, .ref a2, .ref a3, .ref a4, .int 0, .ref a5, .int 0, .int 0, .int 0, .int 0, .long 0, .int (-1), .int 0, .int 0, .ref a6, .int 0, .ref a7, .ref a8, .int 0, .ref a9, .ref a10, .int 0, .int 0, .ref a11, .ref a12, .int 0, .ref a13, .ref a14, .int 0, .long 0, .long 0, .int 0, .int 0, .int 0, .int 0, .int 0, .ref a15, .int 0, .int 0, .ref a16, .int 0, .ref a17, .ref a18, .ref a19, .int 0, .ref a20, .ref a21, .long 0, .ref a22, .int 0])), (a2, .inl (G.2 0, 5740, .inl (upd (upd (upd (fun _ => 0) 3 (-1)) 4 1000) 6 (-1))))] sz)) (va_A [(a0, .inr (12, [.int 0, .int 0, .ref a1, .ref a2, .ref a3, .ref a4, .int 0, .ref a5, .int 0, .int 0, .int 0, .int 0, .long 0, .int (-1), .int 0, .int 0, .ref a6, .int 0, .ref a7, .ref a8, .int 0, .ref a9, .ref a10, .int 0, .int 0, .ref a11, .ref a12, .int 0, .ref a13, .ref a14, .int 0, .long 0, .long 0, .int 0, .int 0, .int 0, .int 0, .int 0, .ref a15, .int 0, .int 0, .ref a16, .int 0, .ref a17, .ref a18, .ref a19, .int 0, .ref a20, .ref a21, .long 0, .ref a22, .int 0])), (a2, .inl (G.2 0, 5740, .inl (upd (upd (upd (fun _ => 0) 3 (-1)) 4 1000) 6 (-1))))] sz)) 0 0 (va_A [(a0, .inr (12, [.int 0, .int 0, .ref a1, .ref a2, .ref a3, .ref a4, .int 0, .ref a5, .int 0, .int 0, .int 0, .int 0, .long 0, .int (-1), .int 0, .int 0, .ref a6, .int 0, .ref a7, .ref a8, .int 0, .ref a9, .ref a10, .int 0, .int 0, .ref a11, .ref a12, .int 0, .ref a13, .ref a14, .int 0, .long 0, .long 0, .int 0, .int 0, .int 0, .int 0, .int 0, .ref a15, .int 0, .int 0, .ref a16, .int 0, .ref a17, .ref a18, .ref a19, .int 0, .ref a20, .ref a21, .long 0, .ref a22, .int 0])), (a2, .inl (G.2 0, 5740, .inl (upd (upd (upd (fun _ => 0) 3 (-1)) 4 1000) 6 (-1))))] sz) := by
  refine g5_wkI (kX12_soonest l G a0 a1 a2 a3 a4 a5 a6 a7 a8 a9 a10 a11 a12 a13 a14 a15 a16 a17 a18 a19 a20 a21 a22 sz n0 n1 n2) (fun r u h => ?_)
  obtain ⟨i0, hr, hu⟩ := h
  refine ⟨?_, hu⟩
  rw [hr]
  rw [show ((-1) : Int32).toInt = (-1) from by decide]
  unfold sp_soonest; omega
set_option maxHeartbeats 4000000 in
set_option maxRecDepth 100000 in
theorem sM_way (l : Launch) (G : g5_G) (a0 a1 a2 a3 a4 a5 a6 a7 a8 a9 a10 a11 a12 a13 a14 a15 a16 a17 a18 a19 a20 a21 a22 : Nat) (sz : Nat) (n0 : Int32) (n1 : Int32) (n2 : Int32) (n3 : Int32) : Met l yX12_way (wsG yX12_way cX12_way 10 (some .int)) ({ frames := 2, cells := 0, slots := 0, locals := 46 }) (va_Pc [.ref a0, .int n0, .int n1, .int n2, .int n3] (g5_P G [(a0, .inr (12, [.int 0, .int 0, .ref a1, .ref a2, .ref a3, .ref a4, .int 0, .ref a5, .int 0, .int 0, .int 0, .int 0, .long 0, .int (-1), .int 0, .int 0, .ref a6, .int 0, .ref a7, .ref a8, .int 0, .ref a9, .ref a10, .int 0, .int 0, .ref a11, .ref a12, .int 0, .ref a13, .ref a14, .int 0, .long 0, .long 0, .int 0, .int 0, .int 0, .int 0, .int 0, .ref a15, .int 0, .int 0, .ref a16, .int 0, .ref a17, .ref a18, .ref a19, .int 0, .ref a20, .ref a21, .long 0, .ref a22, .int 0])), (a2, .inl (G.2 0, 5740, .inl (upd (upd (upd (fun _ => 0) 3 (-1)) 4 1000) 6 (-1))))] sz)) (va_Qi (fun (r : Int32) (u : va_W) => r.toInt = sp_way n0.toInt n1.toInt n2.toInt n3.toInt ∧ u = []) (g5_B G (va_A [(a0, .inr (12, [.int 0, .int 0, .ref a1, .ref a2, .ref a3, .ref a4, .int 0, .ref a5, .int 0, .int 0, .int 0, .int 0, .long 0, .int (-1), .int 0, .int 0, .ref a6, .int 0, .ref a7, .ref a8, .int 0, .ref a9, .ref a10, .int 0, .int 0, .ref a11, .ref a12, .int 0, .ref a13, .ref a14, .int 0, .long 0, .long 0, .int 0, .int 0, .int 0, .int 0, .int 0, .ref a15, .int 0, .int 0, .ref a16, .int 0, .ref a17, .ref a18, .ref a19, .int 0, .ref a20, .ref a21, .long 0, .ref a22, .int 0])), (a2, .inl (G.2 0, 5740, .inl (upd (upd (upd (fun _ => 0) 3 (-1)) 4 1000) 6 (-1))))] sz)) (va_A [(a0, .inr (12, [.int 0, .int 0, .ref a1, .ref a2, .ref a3, .ref a4, .int 0, .ref a5, .int 0, .int 0, .int 0, .int 0, .long 0, .int (-1), .int 0, .int 0, .ref a6, .int 0, .ref a7, .ref a8, .int 0, .ref a9, .ref a10, .int 0, .int 0, .ref a11, .ref a12, .int 0, .ref a13, .ref a14, .int 0, .long 0, .long 0, .int 0, .int 0, .int 0, .int 0, .int 0, .ref a15, .int 0, .int 0, .ref a16, .int 0, .ref a17, .ref a18, .ref a19, .int 0, .ref a20, .ref a21, .long 0, .ref a22, .int 0])), (a2, .inl (G.2 0, 5740, .inl (upd (upd (upd (fun _ => 0) 3 (-1)) 4 1000) 6 (-1))))] sz)) 0 0 (va_A [(a0, .inr (12, [.int 0, .int 0, .ref a1, .ref a2, .ref a3, .ref a4, .int 0, .ref a5, .int 0, .int 0, .int 0, .int 0, .long 0, .int (-1), .int 0, .int 0, .ref a6, .int 0, .ref a7, .ref a8, .int 0, .ref a9, .ref a10, .int 0, .int 0, .ref a11, .ref a12, .int 0, .ref a13, .ref a14, .int 0, .long 0, .long 0, .int 0, .int 0, .int 0, .int 0, .int 0, .ref a15, .int 0, .int 0, .ref a16, .int 0, .ref a17, .ref a18, .ref a19, .int 0, .ref a20, .ref a21, .long 0, .ref a22, .int 0])), (a2, .inl (G.2 0, 5740, .inl (upd (upd (upd (fun _ => 0) 3 (-1)) 4 1000) 6 (-1))))] sz) := by
  refine g5_wkI (kX12_way l G a0 a1 a2 a3 a4 a5 a6 a7 a8 a9 a10 a11 a12 a13 a14 a15 a16 a17 a18 a19 a20 a21 a22 sz n0 n1 n2 n3) (fun r u h => ?_)
  obtain ⟨i0, hr, hu⟩ := h
  refine ⟨?_, hu⟩
  rw [hr]
  rw [show ((-1) : Int32).toInt = (-1) from by decide]
  unfold sp_way; omega
set_option maxHeartbeats 4000000 in
set_option maxRecDepth 100000 in
theorem sM_sooner (l : Launch) (G : g5_G) (a0 a1 a2 a3 a4 a5 a6 a7 a8 a9 a10 a11 a12 a13 a14 a15 a16 a17 a18 a19 a20 a21 a22 : Nat) (sz : Nat) (n0 : Int32) (n1 : Int32) (n2 : Int32) (n3 : Int32) : Met l yX12_sooner (wsG yX12_sooner cX12_sooner 12 (some .int)) ({ frames := 2, cells := 0, slots := 0, locals := 46 }) (va_Pc [.ref a0, .int n0, .int n1, .int n2, .int n3] (g5_P G [(a0, .inr (12, [.int 0, .int 0, .ref a1, .ref a2, .ref a3, .ref a4, .int 0, .ref a5, .int 0, .int 0, .int 0, .int 0, .long 0, .int (-1), .int 0, .int 0, .ref a6, .int 0, .ref a7, .ref a8, .int 0, .ref a9, .ref a10, .int 0, .int 0, .ref a11, .ref a12, .int 0, .ref a13, .ref a14, .int 0, .long 0, .long 0, .int 0, .int 0, .int 0, .int 0, .int 0, .ref a15, .int 0, .int 0, .ref a16, .int 0, .ref a17, .ref a18, .ref a19, .int 0, .ref a20, .ref a21, .long 0, .ref a22, .int 0])), (a2, .inl (G.2 0, 5740, .inl (upd (upd (upd (fun _ => 0) 3 (-1)) 4 1000) 6 (-1))))] sz)) (va_Qi (fun (r : Int32) (u : va_W) => r.toInt = sp_sooner n0.toInt n1.toInt n2.toInt n3.toInt ∧ u = []) (g5_B G (va_A [(a0, .inr (12, [.int 0, .int 0, .ref a1, .ref a2, .ref a3, .ref a4, .int 0, .ref a5, .int 0, .int 0, .int 0, .int 0, .long 0, .int (-1), .int 0, .int 0, .ref a6, .int 0, .ref a7, .ref a8, .int 0, .ref a9, .ref a10, .int 0, .int 0, .ref a11, .ref a12, .int 0, .ref a13, .ref a14, .int 0, .long 0, .long 0, .int 0, .int 0, .int 0, .int 0, .int 0, .ref a15, .int 0, .int 0, .ref a16, .int 0, .ref a17, .ref a18, .ref a19, .int 0, .ref a20, .ref a21, .long 0, .ref a22, .int 0])), (a2, .inl (G.2 0, 5740, .inl (upd (upd (upd (fun _ => 0) 3 (-1)) 4 1000) 6 (-1))))] sz)) (va_A [(a0, .inr (12, [.int 0, .int 0, .ref a1, .ref a2, .ref a3, .ref a4, .int 0, .ref a5, .int 0, .int 0, .int 0, .int 0, .long 0, .int (-1), .int 0, .int 0, .ref a6, .int 0, .ref a7, .ref a8, .int 0, .ref a9, .ref a10, .int 0, .int 0, .ref a11, .ref a12, .int 0, .ref a13, .ref a14, .int 0, .long 0, .long 0, .int 0, .int 0, .int 0, .int 0, .int 0, .ref a15, .int 0, .int 0, .ref a16, .int 0, .ref a17, .ref a18, .ref a19, .int 0, .ref a20, .ref a21, .long 0, .ref a22, .int 0])), (a2, .inl (G.2 0, 5740, .inl (upd (upd (upd (fun _ => 0) 3 (-1)) 4 1000) 6 (-1))))] sz)) 0 0 (va_A [(a0, .inr (12, [.int 0, .int 0, .ref a1, .ref a2, .ref a3, .ref a4, .int 0, .ref a5, .int 0, .int 0, .int 0, .int 0, .long 0, .int (-1), .int 0, .int 0, .ref a6, .int 0, .ref a7, .ref a8, .int 0, .ref a9, .ref a10, .int 0, .int 0, .ref a11, .ref a12, .int 0, .ref a13, .ref a14, .int 0, .long 0, .long 0, .int 0, .int 0, .int 0, .int 0, .int 0, .ref a15, .int 0, .int 0, .ref a16, .int 0, .ref a17, .ref a18, .ref a19, .int 0, .ref a20, .ref a21, .long 0, .ref a22, .int 0])), (a2, .inl (G.2 0, 5740, .inl (upd (upd (upd (fun _ => 0) 3 (-1)) 4 1000) 6 (-1))))] sz) := by
  refine g5_wkI (kX12_sooner l G a0 a1 a2 a3 a4 a5 a6 a7 a8 a9 a10 a11 a12 a13 a14 a15 a16 a17 a18 a19 a20 a21 a22 sz n0 n1 n2 n3) (fun r u h => ?_)
  obtain ⟨i0, hr, hu⟩ := h
  refine ⟨?_, hu⟩
  rw [hr]
  rw [show ((-1) : Int32).toInt = (-1) from by decide]
  unfold sp_sooner; omega
set_option maxHeartbeats 4000000 in
set_option maxRecDepth 100000 in
theorem sM_wander (l : Launch) (G : g5_G) (a_y a_2 a_22 a_16 a_1 a_3 a_4 a_5 a_6 a_7 a_8 a_9 a_10 a_11 a_12 a_13 a_14 a_15 a_17 a_18 a_19 a_20 a_21 : Nat) (sz : Nat) (p_s : Int32) (p_c : Int32) : Met l yX12_wander (wsG yX12_wander cX12_wander 7 (some .int)) ({ frames := 2, cells := 0, slots := 0, locals := 45 }) (va_Pc [.ref a_y, .int p_s, .int p_c] (g5_P G [(a_y, .inr (12, [.int 0, .int 0, .ref a_1, .ref a_2, .ref a_3, .ref a_4, .int 0, .ref a_5, .int 0, .int 0, .int 0, .int 0, .long 0, .int (-1), .int 0, .int 0, .ref a_6, .int 0, .ref a_7, .ref a_8, .int 0, .ref a_9, .ref a_10, .int 0, .int 0, .ref a_11, .ref a_12, .int 0, .ref a_13, .ref a_14, .int 0, .long 0, .long 0, .int 0, .int 0, .int 0, .int 0, .int 0, .ref a_15, .int 0, .int 0, .ref a_16, .int 0, .ref a_17, .ref a_18, .ref a_19, .int 0, .ref a_20, .ref a_21, .long 0, .ref a_22, .int 0])), (a_2, .inl (G.2 0, 5740, .inl (upd (upd (upd (fun _ => 0) 3 (-1)) 4 1000) 6 (-1)))), (a_22, .inl (G.2 0, 24, .inl (fun _ => 0))), (a_16, .inl (G.2 2, 1536, .inl (fun _ => 0))), (a_1, .inl (G.2 0, 7, .inl (fun _ => 0)))] sz)) (va_Qi (fun (r : Int32) (u : va_W) => r.toInt = sp_wander p_s.toInt p_c.toInt ∧ u = []) (g5_B G (va_A [(a_y, .inr (12, [.int 0, .int 0, .ref a_1, .ref a_2, .ref a_3, .ref a_4, .int 0, .ref a_5, .int 0, .int 0, .int 0, .int 0, .long 0, .int (-1), .int 0, .int 0, .ref a_6, .int 0, .ref a_7, .ref a_8, .int 0, .ref a_9, .ref a_10, .int 0, .int 0, .ref a_11, .ref a_12, .int 0, .ref a_13, .ref a_14, .int 0, .long 0, .long 0, .int 0, .int 0, .int 0, .int 0, .int 0, .ref a_15, .int 0, .int 0, .ref a_16, .int 0, .ref a_17, .ref a_18, .ref a_19, .int 0, .ref a_20, .ref a_21, .long 0, .ref a_22, .int 0])), (a_2, .inl (G.2 0, 5740, .inl (upd (upd (upd (fun _ => 0) 3 (-1)) 4 1000) 6 (-1)))), (a_22, .inl (G.2 0, 24, .inl (fun _ => 0))), (a_16, .inl (G.2 2, 1536, .inl (fun _ => 0))), (a_1, .inl (G.2 0, 7, .inl (fun _ => 0)))] sz)) (va_A [(a_y, .inr (12, [.int 0, .int 0, .ref a_1, .ref a_2, .ref a_3, .ref a_4, .int 0, .ref a_5, .int 0, .int 0, .int 0, .int 0, .long 0, .int (-1), .int 0, .int 0, .ref a_6, .int 0, .ref a_7, .ref a_8, .int 0, .ref a_9, .ref a_10, .int 0, .int 0, .ref a_11, .ref a_12, .int 0, .ref a_13, .ref a_14, .int 0, .long 0, .long 0, .int 0, .int 0, .int 0, .int 0, .int 0, .ref a_15, .int 0, .int 0, .ref a_16, .int 0, .ref a_17, .ref a_18, .ref a_19, .int 0, .ref a_20, .ref a_21, .long 0, .ref a_22, .int 0])), (a_2, .inl (G.2 0, 5740, .inl (upd (upd (upd (fun _ => 0) 3 (-1)) 4 1000) 6 (-1)))), (a_22, .inl (G.2 0, 24, .inl (fun _ => 0))), (a_16, .inl (G.2 2, 1536, .inl (fun _ => 0))), (a_1, .inl (G.2 0, 7, .inl (fun _ => 0)))] sz)) 0 0 (va_A [(a_y, .inr (12, [.int 0, .int 0, .ref a_1, .ref a_2, .ref a_3, .ref a_4, .int 0, .ref a_5, .int 0, .int 0, .int 0, .int 0, .long 0, .int (-1), .int 0, .int 0, .ref a_6, .int 0, .ref a_7, .ref a_8, .int 0, .ref a_9, .ref a_10, .int 0, .int 0, .ref a_11, .ref a_12, .int 0, .ref a_13, .ref a_14, .int 0, .long 0, .long 0, .int 0, .int 0, .int 0, .int 0, .int 0, .ref a_15, .int 0, .int 0, .ref a_16, .int 0, .ref a_17, .ref a_18, .ref a_19, .int 0, .ref a_20, .ref a_21, .long 0, .ref a_22, .int 0])), (a_2, .inl (G.2 0, 5740, .inl (upd (upd (upd (fun _ => 0) 3 (-1)) 4 1000) 6 (-1)))), (a_22, .inl (G.2 0, 24, .inl (fun _ => 0))), (a_16, .inl (G.2 2, 1536, .inl (fun _ => 0))), (a_1, .inl (G.2 0, 7, .inl (fun _ => 0)))] sz) := by
  refine g5_wkI (k_mwander l G a_y a_2 a_22 a_16 a_1 a_3 a_4 a_5 a_6 a_7 a_8 a_9 a_10 a_11 a_12 a_13 a_14 a_15 a_17 a_18 a_19 a_20 a_21 sz p_s p_c) (fun r u h => ?_)
  rcases h with ⟨i0, hr, hu⟩ | ⟨i1, hr, hu⟩
  · refine ⟨?_, hu⟩
    rw [hr]
    rw [show ((-1) : Int32).toInt = (-1) from by decide]
    unfold sp_wander; omega
  · refine ⟨?_, hu⟩
    rw [hr]
    rw [show (0 : Int32).toInt = 0 from by decide]
    unfold sp_wander; omega
set_option maxHeartbeats 4000000 in
set_option maxRecDepth 100000 in
theorem sM_drawn (l : Launch) (G : g5_G) (a0 a1 a2 a3 a4 a5 a6 a7 a8 a9 a10 a11 a12 a13 a14 a15 a16 a17 a18 a19 a20 a21 a22 : Nat) (sz : Nat) (n0 : Int32) : Met l yX12_drawn (wsG yX12_drawn cX12_drawn 2 (some .int)) ({ frames := 0, cells := 0, slots := 0, locals := 0 }) (va_Pc [.ref a0, .int n0] (g5_P G [(a0, .inr (12, [.int 0, .int 0, .ref a1, .ref a2, .ref a3, .ref a4, .int 0, .ref a5, .int 0, .int 0, .int 0, .int 0, .long 0, .int (-1), .int 0, .int 0, .ref a6, .int 0, .ref a7, .ref a8, .int 0, .ref a9, .ref a10, .int 0, .int 0, .ref a11, .ref a12, .int 0, .ref a13, .ref a14, .int 0, .long 0, .long 0, .int 0, .int 0, .int 0, .int 0, .int 0, .ref a15, .int 0, .int 0, .ref a16, .int 0, .ref a17, .ref a18, .ref a19, .int 0, .ref a20, .ref a21, .long 0, .ref a22, .int 0]))] sz)) (va_Qi (fun (r : Int32) (u : va_W) => r.toInt = sp_drawn n0.toInt ∧ u = []) (g5_B G (va_A [(a0, .inr (12, [.int 0, .int 0, .ref a1, .ref a2, .ref a3, .ref a4, .int 0, .ref a5, .int 0, .int 0, .int 0, .int 0, .long 0, .int (-1), .int 0, .int 0, .ref a6, .int 0, .ref a7, .ref a8, .int 0, .ref a9, .ref a10, .int 0, .int 0, .ref a11, .ref a12, .int 0, .ref a13, .ref a14, .int 0, .long 0, .long 0, .int 0, .int 0, .int 0, .int 0, .int 0, .ref a15, .int 0, .int 0, .ref a16, .int 0, .ref a17, .ref a18, .ref a19, .int 0, .ref a20, .ref a21, .long 0, .ref a22, .int 0]))] sz)) (va_A [(a0, .inr (12, [.int 0, .int 0, .ref a1, .ref a2, .ref a3, .ref a4, .int 0, .ref a5, .int 0, .int 0, .int 0, .int 0, .long 0, .int (-1), .int 0, .int 0, .ref a6, .int 0, .ref a7, .ref a8, .int 0, .ref a9, .ref a10, .int 0, .int 0, .ref a11, .ref a12, .int 0, .ref a13, .ref a14, .int 0, .long 0, .long 0, .int 0, .int 0, .int 0, .int 0, .int 0, .ref a15, .int 0, .int 0, .ref a16, .int 0, .ref a17, .ref a18, .ref a19, .int 0, .ref a20, .ref a21, .long 0, .ref a22, .int 0]))] sz)) 0 0 (va_A [(a0, .inr (12, [.int 0, .int 0, .ref a1, .ref a2, .ref a3, .ref a4, .int 0, .ref a5, .int 0, .int 0, .int 0, .int 0, .long 0, .int (-1), .int 0, .int 0, .ref a6, .int 0, .ref a7, .ref a8, .int 0, .ref a9, .ref a10, .int 0, .int 0, .ref a11, .ref a12, .int 0, .ref a13, .ref a14, .int 0, .long 0, .long 0, .int 0, .int 0, .int 0, .int 0, .int 0, .ref a15, .int 0, .int 0, .ref a16, .int 0, .ref a17, .ref a18, .ref a19, .int 0, .ref a20, .ref a21, .long 0, .ref a22, .int 0]))] sz) := by
  refine g5_wkI (kX12_drawn l G a0 a1 a2 a3 a4 a5 a6 a7 a8 a9 a10 a11 a12 a13 a14 a15 a16 a17 a18 a19 a20 a21 a22 sz n0) (fun r u h => ?_)
  obtain ⟨hr, hu⟩ := h
  refine ⟨?_, hu⟩
  rw [hr]
  rw [show ((-1) : Int32).toInt = (-1) from by decide]
  unfold sp_drawn; omega
set_option maxHeartbeats 4000000 in
set_option maxRecDepth 100000 in
theorem sM_image (l : Launch) (G : g5_G) (a_y a_2 a_3 a_4 a_1 a_5 a_6 a_7 a_8 a_9 a_10 a_11 a_12 a_13 a_14 a_15 a_16 a_17 a_18 a_19 a_20 a_21 a_22 : Nat) (sz : Nat) (p_k : Int32) : Met l yX12_image (wsG yX12_image cX12_image 3 (some .int)) ({ frames := 1, cells := 0, slots := 0, locals := 25 }) (va_Pc [.ref a_y, .int p_k] (g5_P G [(a_y, .inr (12, [.int 0, .int 0, .ref a_1, .ref a_2, .ref a_3, .ref a_4, .int 0, .ref a_5, .int 0, .int 0, .int 0, .int 0, .long 0, .int (-1), .int 0, .int 0, .ref a_6, .int 0, .ref a_7, .ref a_8, .int 0, .ref a_9, .ref a_10, .int 0, .int 0, .ref a_11, .ref a_12, .int 0, .ref a_13, .ref a_14, .int 0, .long 0, .long 0, .int 0, .int 0, .int 0, .int 0, .int 0, .ref a_15, .int 0, .int 0, .ref a_16, .int 0, .ref a_17, .ref a_18, .ref a_19, .int 0, .ref a_20, .ref a_21, .long 0, .ref a_22, .int 0])), (a_2, .inl (G.2 0, 5740, .inl (upd (upd (upd (fun _ => 0) 3 (-1)) 4 1000) 6 (-1)))), (a_3, .inl (G.2 0, 11480, .inl (fun _ => 0))), (a_4, .inl (G.2 2, 2, .inl (fun _ => 0))), (a_1, .inl (G.2 0, 7, .inl (fun _ => 0)))] sz)) (va_Qi (fun (r : Int32) (u : va_W) => r.toInt = sp_image p_k.toInt ∧ u = []) (g5_B G (va_A [(a_y, .inr (12, [.int 0, .int 0, .ref a_1, .ref a_2, .ref a_3, .ref a_4, .int 0, .ref a_5, .int 0, .int 0, .int 0, .int 0, .long 0, .int (-1), .int 0, .int 0, .ref a_6, .int 0, .ref a_7, .ref a_8, .int 0, .ref a_9, .ref a_10, .int 0, .int 0, .ref a_11, .ref a_12, .int 0, .ref a_13, .ref a_14, .int 0, .long 0, .long 0, .int 0, .int 0, .int 0, .int 0, .int 0, .ref a_15, .int 0, .int 0, .ref a_16, .int 0, .ref a_17, .ref a_18, .ref a_19, .int 0, .ref a_20, .ref a_21, .long 0, .ref a_22, .int 0])), (a_2, .inl (G.2 0, 5740, .inl (upd (upd (upd (fun _ => 0) 3 (-1)) 4 1000) 6 (-1)))), (a_3, .inl (G.2 0, 11480, .inl (fun _ => 0))), (a_4, .inl (G.2 2, 2, .inl (fun _ => 0))), (a_1, .inl (G.2 0, 7, .inl (fun _ => 0)))] sz)) (va_A [(a_y, .inr (12, [.int 0, .int 0, .ref a_1, .ref a_2, .ref a_3, .ref a_4, .int 0, .ref a_5, .int 0, .int 0, .int 0, .int 0, .long 0, .int (-1), .int 0, .int 0, .ref a_6, .int 0, .ref a_7, .ref a_8, .int 0, .ref a_9, .ref a_10, .int 0, .int 0, .ref a_11, .ref a_12, .int 0, .ref a_13, .ref a_14, .int 0, .long 0, .long 0, .int 0, .int 0, .int 0, .int 0, .int 0, .ref a_15, .int 0, .int 0, .ref a_16, .int 0, .ref a_17, .ref a_18, .ref a_19, .int 0, .ref a_20, .ref a_21, .long 0, .ref a_22, .int 0])), (a_2, .inl (G.2 0, 5740, .inl (upd (upd (upd (fun _ => 0) 3 (-1)) 4 1000) 6 (-1)))), (a_3, .inl (G.2 0, 11480, .inl (fun _ => 0))), (a_4, .inl (G.2 2, 2, .inl (fun _ => 0))), (a_1, .inl (G.2 0, 7, .inl (fun _ => 0)))] sz)) 0 0 (va_A [(a_y, .inr (12, [.int 0, .int 0, .ref a_1, .ref a_2, .ref a_3, .ref a_4, .int 0, .ref a_5, .int 0, .int 0, .int 0, .int 0, .long 0, .int (-1), .int 0, .int 0, .ref a_6, .int 0, .ref a_7, .ref a_8, .int 0, .ref a_9, .ref a_10, .int 0, .int 0, .ref a_11, .ref a_12, .int 0, .ref a_13, .ref a_14, .int 0, .long 0, .long 0, .int 0, .int 0, .int 0, .int 0, .int 0, .ref a_15, .int 0, .int 0, .ref a_16, .int 0, .ref a_17, .ref a_18, .ref a_19, .int 0, .ref a_20, .ref a_21, .long 0, .ref a_22, .int 0])), (a_2, .inl (G.2 0, 5740, .inl (upd (upd (upd (fun _ => 0) 3 (-1)) 4 1000) 6 (-1)))), (a_3, .inl (G.2 0, 11480, .inl (fun _ => 0))), (a_4, .inl (G.2 2, 2, .inl (fun _ => 0))), (a_1, .inl (G.2 0, 7, .inl (fun _ => 0)))] sz) := by
  refine g5_wkI (k_mimage l G a_y a_2 a_3 a_4 a_1 a_5 a_6 a_7 a_8 a_9 a_10 a_11 a_12 a_13 a_14 a_15 a_16 a_17 a_18 a_19 a_20 a_21 a_22 sz p_k) (fun r u h => ?_)
  rcases h with ⟨i0, hr, hu⟩ | ⟨i1, hr, hu⟩
  · refine ⟨?_, hu⟩
    rw [hr]
    rw [show ((-1) : Int32).toInt = (-1) from by decide]
    unfold sp_image; omega
  · refine ⟨?_, hu⟩
    rw [hr]
    rw [show (0 : Int32).toInt = 0 from by decide]
    unfold sp_image; omega
set_option maxHeartbeats 4000000 in
set_option maxRecDepth 100000 in
theorem sM_back (l : Launch) (G : g5_G) (a0 a1 a2 a3 a4 a5 a6 a7 a8 a9 a10 a11 a12 a13 a14 a15 a16 a17 a18 a19 a20 a21 a22 : Nat) (sz : Nat) (n0 : Int32) : Met l yX12_back (wsG yX12_back cX12_back 3 (some .int)) ({ frames := 1, cells := 0, slots := 0, locals := 25 }) (va_Pc [.ref a0, .int n0] (g5_P G [(a0, .inr (12, [.int 0, .int 0, .ref a1, .ref a2, .ref a3, .ref a4, .int 0, .ref a5, .int 0, .int 0, .int 0, .int 0, .long 0, .int (-1), .int 0, .int 0, .ref a6, .int 0, .ref a7, .ref a8, .int 0, .ref a9, .ref a10, .int 0, .int 0, .ref a11, .ref a12, .int 0, .ref a13, .ref a14, .int 0, .long 0, .long 0, .int 0, .int 0, .int 0, .int 0, .int 0, .ref a15, .int 0, .int 0, .ref a16, .int 0, .ref a17, .ref a18, .ref a19, .int 0, .ref a20, .ref a21, .long 0, .ref a22, .int 0])), (a1, .inl (G.2 0, 7, .inl (fun _ => 0))), (a4, .inl (G.2 2, 2, .inl (fun _ => 0)))] sz)) (va_Qi (fun (r : Int32) (u : va_W) => r.toInt = sp_back n0.toInt ∧ u = []) (g5_B G (va_A [(a0, .inr (12, [.int 0, .int 0, .ref a1, .ref a2, .ref a3, .ref a4, .int 0, .ref a5, .int 0, .int 0, .int 0, .int 0, .long 0, .int (-1), .int 0, .int 0, .ref a6, .int 0, .ref a7, .ref a8, .int 0, .ref a9, .ref a10, .int 0, .int 0, .ref a11, .ref a12, .int 0, .ref a13, .ref a14, .int 0, .long 0, .long 0, .int 0, .int 0, .int 0, .int 0, .int 0, .ref a15, .int 0, .int 0, .ref a16, .int 0, .ref a17, .ref a18, .ref a19, .int 0, .ref a20, .ref a21, .long 0, .ref a22, .int 0])), (a1, .inl (G.2 0, 7, .inl (fun _ => 0))), (a4, .inl (G.2 2, 2, .inl (fun _ => 0)))] sz)) (va_A [(a0, .inr (12, [.int 0, .int 0, .ref a1, .ref a2, .ref a3, .ref a4, .int 0, .ref a5, .int 0, .int 0, .int 0, .int 0, .long 0, .int (-1), .int 0, .int 0, .ref a6, .int 0, .ref a7, .ref a8, .int 0, .ref a9, .ref a10, .int 0, .int 0, .ref a11, .ref a12, .int 0, .ref a13, .ref a14, .int 0, .long 0, .long 0, .int 0, .int 0, .int 0, .int 0, .int 0, .ref a15, .int 0, .int 0, .ref a16, .int 0, .ref a17, .ref a18, .ref a19, .int 0, .ref a20, .ref a21, .long 0, .ref a22, .int 0])), (a1, .inl (G.2 0, 7, .inl (fun _ => 0))), (a4, .inl (G.2 2, 2, .inl (fun _ => 0)))] sz)) 0 0 (va_A [(a0, .inr (12, [.int 0, .int 0, .ref a1, .ref a2, .ref a3, .ref a4, .int 0, .ref a5, .int 0, .int 0, .int 0, .int 0, .long 0, .int (-1), .int 0, .int 0, .ref a6, .int 0, .ref a7, .ref a8, .int 0, .ref a9, .ref a10, .int 0, .int 0, .ref a11, .ref a12, .int 0, .ref a13, .ref a14, .int 0, .long 0, .long 0, .int 0, .int 0, .int 0, .int 0, .int 0, .ref a15, .int 0, .int 0, .ref a16, .int 0, .ref a17, .ref a18, .ref a19, .int 0, .ref a20, .ref a21, .long 0, .ref a22, .int 0])), (a1, .inl (G.2 0, 7, .inl (fun _ => 0))), (a4, .inl (G.2 2, 2, .inl (fun _ => 0)))] sz) := by
  refine g5_wkI (kX12_back l G a0 a1 a2 a3 a4 a5 a6 a7 a8 a9 a10 a11 a12 a13 a14 a15 a16 a17 a18 a19 a20 a21 a22 sz n0) (fun r u h => ?_)
  rcases h with ⟨i0, hr, hu⟩ | ⟨i1, hr, hu⟩
  · refine ⟨?_, hu⟩
    rw [hr]
    rw [show ((-1) : Int32).toInt = (-1) from by decide]
    unfold sp_back; omega
  · refine ⟨?_, hu⟩
    rw [hr]
    rw [show ((-2) : Int32).toInt = (-2) from by decide]
    unfold sp_back; omega
set_option maxHeartbeats 4000000 in
set_option maxRecDepth 100000 in
theorem sM_count (l : Launch) (G : g5_G) (a0 a1 a2 a3 a4 a5 a6 a7 a8 a9 a10 a11 a12 a13 a14 a15 a16 a17 a18 a19 a20 a21 a22 : Nat) (sz : Nat) (n0 : Int32) : Met l yX12_count (wsG yX12_count cX12_count 4 (some .int)) ({ frames := 0, cells := 0, slots := 0, locals := 0 }) (va_Pc [.ref a0, .int n0] (g5_P G [(a0, .inr (12, [.int 0, .int 0, .ref a1, .ref a2, .ref a3, .ref a4, .int 0, .ref a5, .int 0, .int 0, .int 0, .int 0, .long 0, .int (-1), .int 0, .int 0, .ref a6, .int 0, .ref a7, .ref a8, .int 0, .ref a9, .ref a10, .int 0, .int 0, .ref a11, .ref a12, .int 0, .ref a13, .ref a14, .int 0, .long 0, .long 0, .int 0, .int 0, .int 0, .int 0, .int 0, .ref a15, .int 0, .int 0, .ref a16, .int 0, .ref a17, .ref a18, .ref a19, .int 0, .ref a20, .ref a21, .long 0, .ref a22, .int 0])), (a2, .inl (G.2 0, 5740, .inl (upd (upd (upd (fun _ => 0) 3 (-1)) 4 1000) 6 (-1)))), (a1, .inl (G.2 0, 7, .inl (fun _ => 0)))] sz)) (va_Qi (fun (r : Int32) (u : va_W) => r.toInt = sp_count n0.toInt ∧ u = []) (g5_B G (va_A [(a0, .inr (12, [.int 0, .int 0, .ref a1, .ref a2, .ref a3, .ref a4, .int 0, .ref a5, .int 0, .int 0, .int 0, .int 0, .long 0, .int (-1), .int 0, .int 0, .ref a6, .int 0, .ref a7, .ref a8, .int 0, .ref a9, .ref a10, .int 0, .int 0, .ref a11, .ref a12, .int 0, .ref a13, .ref a14, .int 0, .long 0, .long 0, .int 0, .int 0, .int 0, .int 0, .int 0, .ref a15, .int 0, .int 0, .ref a16, .int 0, .ref a17, .ref a18, .ref a19, .int 0, .ref a20, .ref a21, .long 0, .ref a22, .int 0])), (a2, .inl (G.2 0, 5740, .inl (upd (upd (upd (fun _ => 0) 3 (-1)) 4 1000) 6 (-1)))), (a1, .inl (G.2 0, 7, .inl (fun _ => 0)))] sz)) (va_A [(a0, .inr (12, [.int 0, .int 0, .ref a1, .ref a2, .ref a3, .ref a4, .int 0, .ref a5, .int 0, .int 0, .int 0, .int 0, .long 0, .int (-1), .int 0, .int 0, .ref a6, .int 0, .ref a7, .ref a8, .int 0, .ref a9, .ref a10, .int 0, .int 0, .ref a11, .ref a12, .int 0, .ref a13, .ref a14, .int 0, .long 0, .long 0, .int 0, .int 0, .int 0, .int 0, .int 0, .ref a15, .int 0, .int 0, .ref a16, .int 0, .ref a17, .ref a18, .ref a19, .int 0, .ref a20, .ref a21, .long 0, .ref a22, .int 0])), (a2, .inl (G.2 0, 5740, .inl (upd (upd (upd (fun _ => 0) 3 (-1)) 4 1000) 6 (-1)))), (a1, .inl (G.2 0, 7, .inl (fun _ => 0)))] sz)) 0 0 (va_A [(a0, .inr (12, [.int 0, .int 0, .ref a1, .ref a2, .ref a3, .ref a4, .int 0, .ref a5, .int 0, .int 0, .int 0, .int 0, .long 0, .int (-1), .int 0, .int 0, .ref a6, .int 0, .ref a7, .ref a8, .int 0, .ref a9, .ref a10, .int 0, .int 0, .ref a11, .ref a12, .int 0, .ref a13, .ref a14, .int 0, .long 0, .long 0, .int 0, .int 0, .int 0, .int 0, .int 0, .ref a15, .int 0, .int 0, .ref a16, .int 0, .ref a17, .ref a18, .ref a19, .int 0, .ref a20, .ref a21, .long 0, .ref a22, .int 0])), (a2, .inl (G.2 0, 5740, .inl (upd (upd (upd (fun _ => 0) 3 (-1)) 4 1000) 6 (-1)))), (a1, .inl (G.2 0, 7, .inl (fun _ => 0)))] sz) := by
  refine g5_wkI (kX12_count l G a0 a1 a2 a3 a4 a5 a6 a7 a8 a9 a10 a11 a12 a13 a14 a15 a16 a17 a18 a19 a20 a21 a22 sz n0) (fun r u h => ?_)
  rcases h with ⟨i0, hr, hu⟩ | ⟨i1, hr, hu⟩ | ⟨i2, hr, hu⟩ | ⟨i3, hr, hu⟩ | ⟨i4, hr, hu⟩ | ⟨i5, hr, hu⟩ | ⟨i6, hr, hu⟩ | ⟨i7, hr, hu⟩ | ⟨i8, hr, hu⟩ | ⟨i9, hr, hu⟩ | ⟨i10, hr, hu⟩ | ⟨i11, hr, hu⟩ | ⟨i12, hr, hu⟩ | ⟨i13, hr, hu⟩ | ⟨i14, hr, hu⟩ | ⟨i15, hr, hu⟩
  · refine ⟨?_, hu⟩
    rw [hr]
    rw [show (0 : Int32).toInt = 0 from by decide]
    unfold sp_count; omega
  · refine ⟨?_, hu⟩
    rw [hr]
    rw [show (0 : Int32).toInt = 0 from by decide]
    unfold sp_count; omega
  · refine ⟨?_, hu⟩
    rw [hr]
    rw [show (0 : Int32).toInt = 0 from by decide]
    unfold sp_count; omega
  · refine ⟨?_, hu⟩
    rw [hr]
    rw [show (0 : Int32).toInt = 0 from by decide]
    unfold sp_count; omega
  · refine ⟨?_, hu⟩
    rw [hr]
    rw [show (0 : Int32).toInt = 0 from by decide]
    unfold sp_count; omega
  · refine ⟨?_, hu⟩
    rw [hr]
    rw [show (0 : Int32).toInt = 0 from by decide]
    unfold sp_count; omega
  · refine ⟨?_, hu⟩
    rw [hr]
    rw [show (0 : Int32).toInt = 0 from by decide]
    unfold sp_count; omega
  · refine ⟨?_, hu⟩
    rw [hr]
    rw [show (0 : Int32).toInt = 0 from by decide]
    unfold sp_count; omega
  · refine ⟨?_, hu⟩
    rw [hr]
    rw [show (0 : Int32).toInt = 0 from by decide]
    unfold sp_count; omega
  · refine ⟨?_, hu⟩
    rw [hr]
    rw [show (0 : Int32).toInt = 0 from by decide]
    unfold sp_count; omega
  · refine ⟨?_, hu⟩
    rw [hr]
    rw [show (0 : Int32).toInt = 0 from by decide]
    unfold sp_count; omega
  · refine ⟨?_, hu⟩
    rw [hr]
    rw [show (0 : Int32).toInt = 0 from by decide]
    unfold sp_count; omega
  · refine ⟨?_, hu⟩
    rw [hr]
    rw [show (0 : Int32).toInt = 0 from by decide]
    unfold sp_count; omega
  · refine ⟨?_, hu⟩
    rw [hr]
    rw [show ((-1) : Int32).toInt = (-1) from by decide]
    unfold sp_count; omega
  · refine ⟨?_, hu⟩
    rw [hr]
    rw [show ((-1) : Int32).toInt = (-1) from by decide]
    unfold sp_count; omega
  · refine ⟨?_, hu⟩
    rw [hr]
    rw [show ((-1) : Int32).toInt = (-1) from by decide]
    unfold sp_count; omega
set_option maxHeartbeats 4000000 in
set_option maxRecDepth 100000 in
theorem sM_status (l : Launch) (G : g5_G) (a0 a1 a2 a3 a4 a5 a6 a7 a8 a9 a10 a11 a12 a13 a14 a15 a16 a17 a18 a19 a20 a21 a22 : Nat) (sz : Nat) : Met l yX12_status (wsG yX12_status cX12_status 1 (some .int)) ({ frames := 0, cells := 0, slots := 0, locals := 0 }) (va_Pc [.ref a0] (g5_P G [(a0, .inr (12, [.int 0, .int 0, .ref a1, .ref a2, .ref a3, .ref a4, .int 0, .ref a5, .int 0, .int 0, .int 0, .int 0, .long 0, .int (-1), .int 0, .int 0, .ref a6, .int 0, .ref a7, .ref a8, .int 0, .ref a9, .ref a10, .int 0, .int 0, .ref a11, .ref a12, .int 0, .ref a13, .ref a14, .int 0, .long 0, .long 0, .int 0, .int 0, .int 0, .int 0, .int 0, .ref a15, .int 0, .int 0, .ref a16, .int 0, .ref a17, .ref a18, .ref a19, .int 0, .ref a20, .ref a21, .long 0, .ref a22, .int 0]))] sz)) (va_Qi (fun (r : Int32) (u : va_W) => r.toInt = sp_status ∧ u = []) (g5_B G (va_A [(a0, .inr (12, [.int 0, .int 0, .ref a1, .ref a2, .ref a3, .ref a4, .int 0, .ref a5, .int 0, .int 0, .int 0, .int 0, .long 0, .int (-1), .int 0, .int 0, .ref a6, .int 0, .ref a7, .ref a8, .int 0, .ref a9, .ref a10, .int 0, .int 0, .ref a11, .ref a12, .int 0, .ref a13, .ref a14, .int 0, .long 0, .long 0, .int 0, .int 0, .int 0, .int 0, .int 0, .ref a15, .int 0, .int 0, .ref a16, .int 0, .ref a17, .ref a18, .ref a19, .int 0, .ref a20, .ref a21, .long 0, .ref a22, .int 0]))] sz)) (va_A [(a0, .inr (12, [.int 0, .int 0, .ref a1, .ref a2, .ref a3, .ref a4, .int 0, .ref a5, .int 0, .int 0, .int 0, .int 0, .long 0, .int (-1), .int 0, .int 0, .ref a6, .int 0, .ref a7, .ref a8, .int 0, .ref a9, .ref a10, .int 0, .int 0, .ref a11, .ref a12, .int 0, .ref a13, .ref a14, .int 0, .long 0, .long 0, .int 0, .int 0, .int 0, .int 0, .int 0, .ref a15, .int 0, .int 0, .ref a16, .int 0, .ref a17, .ref a18, .ref a19, .int 0, .ref a20, .ref a21, .long 0, .ref a22, .int 0]))] sz)) 0 0 (va_A [(a0, .inr (12, [.int 0, .int 0, .ref a1, .ref a2, .ref a3, .ref a4, .int 0, .ref a5, .int 0, .int 0, .int 0, .int 0, .long 0, .int (-1), .int 0, .int 0, .ref a6, .int 0, .ref a7, .ref a8, .int 0, .ref a9, .ref a10, .int 0, .int 0, .ref a11, .ref a12, .int 0, .ref a13, .ref a14, .int 0, .long 0, .long 0, .int 0, .int 0, .int 0, .int 0, .int 0, .ref a15, .int 0, .int 0, .ref a16, .int 0, .ref a17, .ref a18, .ref a19, .int 0, .ref a20, .ref a21, .long 0, .ref a22, .int 0]))] sz) := by
  refine g5_wkI (kX12_status l G a0 a1 a2 a3 a4 a5 a6 a7 a8 a9 a10 a11 a12 a13 a14 a15 a16 a17 a18 a19 a20 a21 a22 sz) (fun r u h => ?_)
  obtain ⟨hr, hu⟩ := h
  refine ⟨?_, hu⟩
  rw [hr]
  rw [show (0 : Int32).toInt = 0 from by decide]
  unfold sp_status; omega
