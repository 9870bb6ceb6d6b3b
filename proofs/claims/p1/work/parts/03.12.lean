set_option maxHeartbeats 4000000 in
set_option maxRecDepth 100000 in
theorem kX11_point (l : Launch) (G : g5_G) (a0 a1 a2 a3 a4 a5 a6 a7 a8 a9 a10 a11 a12 a13 a14 a15 a16 a17 a18 a19 a20 a21 a22 : Nat) (sz : Nat) (n0 : Int32) (n1 : Int32) (n2 : Int32) (n3 : Int32) : Met l yX11_point (wsG yX11_point cX11_point 5 (some .int)) ({ frames := 3, cells := 0, slots := 0, locals := 70 }) (va_Pc [.ref a0, .int n0, .int n1, .int n2, .int n3] (g5_P G [(a0, .inr (11, [.ref a1, .ref a2, .ref a3, .ref a4, .ref a5, .ref a6, .ref a7, .ref a8, .ref a9, .ref a10, .int 0, .int 0, .int (-1), .ref a11, .int 0, .ref a12, .int 0])), (a4, .inr (5, [.ref a1, .ref a13, .ref a14, .int 0, .int 0, .int 0, .int 0, .int 0, .int 0, .int 0, .int 0, .int 0, .int 0])), (a1, .inr (1, [.long 0, .int 1000, .int (-1), .int (-1), .int 0, .ref a15, .ref a16, .ref a17, .ref a18, .ref a19, .ref a20, .long 0, .ref a21])), (a14, .inl (G.2 0, 200, .inl (fun _ => 0))), (a21, .inl (G.2 1, 24, .inr (.inl (fun _ => 0)))), (a19, .inr (6, [.int 8, .int 5, .ref a22, .int 0]))] sz)) (va_Qi (fun (r : Int32) (u : va_W) => ((n0.toInt < 0) ∧ (r = (-1)) ∧ (u = [])) ∨ ((n0.toInt ≥ 0) ∧ (n0.toInt ≥ 64) ∧ (r = (-1)) ∧ (u = [])) ∨ ((n0.toInt ≥ 0) ∧ (n0.toInt < 64) ∧ (n1.toInt < 0) ∧ (r = (-1)) ∧ (u = [])) ∨ ((n0.toInt ≥ 0) ∧ (n0.toInt < 64) ∧ (n1.toInt ≥ 0) ∧ (n1.toInt ≥ 4) ∧ (r = (-1)) ∧ (u = [])) ∨ ((n0.toInt ≥ 0) ∧ (n0.toInt < 64) ∧ (n1.toInt ≥ 0) ∧ (n1.toInt < 4) ∧ (n2.toInt < 0) ∧ (r = (-1)) ∧ (u = [])) ∨ ((n0.toInt ≥ 0) ∧ (n0.toInt < 64) ∧ (n1.toInt ≥ 0) ∧ (n1.toInt < 4) ∧ (n2.toInt ≥ 0) ∧ (n2.toInt ≥ 24) ∧ (r = (-1)) ∧ (u = [])) ∨ (∃ (z42 : Int32) (z43 : Int32) (z44 : Int32) (z45 : Nat → Int32), (n0.toInt ≥ 0) ∧ (n0.toInt < 64) ∧ (n1.toInt ≥ 0) ∧ (n1.toInt < 4) ∧ (n2.toInt ≥ 0) ∧ (n2.toInt < 24) ∧ (n1.toInt = 0) ∧ (z42.toInt = n0.toInt / 8) ∧ (0 ≤ z42.toInt ∧ z42.toInt ≤ 7) ∧ ((z42.toInt = 0 → z43.toInt = -1) ∧ (0 < z42.toInt → z43.toInt = n2.toInt)) ∧ (-1 ≤ z43.toInt ∧ z43.toInt ≤ 23) ∧ (0 ≤ z44.toInt ∧ z44.toInt ≤ 63) ∧ (∀ j : Nat, (j : Int) < z42.toInt → (z45 j).toInt = n2.toInt * 64 + (n0.toInt - 8 * ((j : Int) + 1))) ∧ (n3.toInt < 0) ∧ (r = (-1)) ∧ (u = [])) ∨ (∃ (z42 : Int32) (z43 : Int32) (z44 : Int32) (z45 : Nat → Int32), (n0.toInt ≥ 0) ∧ (n0.toInt < 64) ∧ (n1.toInt ≥ 0) ∧ (n1.toInt < 4) ∧ (n2.toInt ≥ 0) ∧ (n2.toInt < 24) ∧ (n1.toInt = 0) ∧ (z42.toInt = n0.toInt / 8) ∧ (0 ≤ z42.toInt ∧ z42.toInt ≤ 7) ∧ ((z42.toInt = 0 → z43.toInt = -1) ∧ (0 < z42.toInt → z43.toInt = n2.toInt)) ∧ (-1 ≤ z43.toInt ∧ z43.toInt ≤ 23) ∧ (0 ≤ z44.toInt ∧ z44.toInt ≤ 63) ∧ (∀ j : Nat, (j : Int) < z42.toInt → (z45 j).toInt = n2.toInt * 64 + (n0.toInt - 8 * ((j : Int) + 1))) ∧ (n3.toInt ≥ 0) ∧ (n3.toInt ≥ z42.toInt) ∧ (r = (-1)) ∧ (u = [])) ∨ (∃ (z42 : Int32) (z43 : Int32) (z44 : Int32) (z45 : Nat → Int32), (n0.toInt ≥ 0) ∧ (n0.toInt < 64) ∧ (n1.toInt ≥ 0) ∧ (n1.toInt < 4) ∧ (n2.toInt ≥ 0) ∧ (n2.toInt < 24) ∧ (n1.toInt = 0) ∧ (z42.toInt = n0.toInt / 8) ∧ (0 ≤ z42.toInt ∧ z42.toInt ≤ 7) ∧ ((z42.toInt = 0 → z43.toInt = -1) ∧ (0 < z42.toInt → z43.toInt = n2.toInt)) ∧ (-1 ≤ z43.toInt ∧ z43.toInt ≤ 23) ∧ (0 ≤ z44.toInt ∧ z44.toInt ≤ 63) ∧ (∀ j : Nat, (j : Int) < z42.toInt → (z45 j).toInt = n2.toInt * 64 + (n0.toInt - 8 * ((j : Int) + 1))) ∧ (n3.toInt ≥ 0) ∧ (n3.toInt < z42.toInt) ∧ ((z45 n3.toNatClampNeg).toInt = (n2.toInt * 64 + (n0.toInt - 8 * (n3.toInt + 1)))) ∧ (r = (z45 n3.toNatClampNeg)) ∧ (u = [])) ∨ (∃ (z55 : Int32) (z56 : Int32) (z57 : Int32) (z58 : Nat → Int32), (n0.toInt ≥ 0) ∧ (n0.toInt < 64) ∧ (n1.toInt ≥ 0) ∧ (n1.toInt < 4) ∧ (n2.toInt ≥ 0) ∧ (n2.toInt < 24) ∧ (n1.toInt = 1) ∧ (z55.toInt = 7 - n0.toInt % 8) ∧ (0 ≤ z55.toInt ∧ z55.toInt ≤ 7) ∧ ((z55.toInt = 0 → z56.toInt = -1) ∧ (0 < z55.toInt → z56.toInt = n2.toInt)) ∧ (-1 ≤ z56.toInt ∧ z56.toInt ≤ 23) ∧ (0 ≤ z57.toInt ∧ z57.toInt ≤ 63) ∧ (∀ j : Nat, (j : Int) < z55.toInt → (z58 j).toInt = n2.toInt * 64 + (n0.toInt + ((j : Int) + 1))) ∧ (n3.toInt < 0) ∧ (r = (-1)) ∧ (u = [])) ∨ (∃ (z55 : Int32) (z56 : Int32) (z57 : Int32) (z58 : Nat → Int32), (n0.toInt ≥ 0) ∧ (n0.toInt < 64) ∧ (n1.toInt ≥ 0) ∧ (n1.toInt < 4) ∧ (n2.toInt ≥ 0) ∧ (n2.toInt < 24) ∧ (n1.toInt = 1) ∧ (z55.toInt = 7 - n0.toInt % 8) ∧ (0 ≤ z55.toInt ∧ z55.toInt ≤ 7) ∧ ((z55.toInt = 0 → z56.toInt = -1) ∧ (0 < z55.toInt → z56.toInt = n2.toInt)) ∧ (-1 ≤ z56.toInt ∧ z56.toInt ≤ 23) ∧ (0 ≤ z57.toInt ∧ z57.toInt ≤ 63) ∧ (∀ j : Nat, (j : Int) < z55.toInt → (z58 j).toInt = n2.toInt * 64 + (n0.toInt + ((j : Int) + 1))) ∧ (n3.toInt ≥ 0) ∧ (n3.toInt ≥ z55.toInt) ∧ (r = (-1)) ∧ (u = [])) ∨ (∃ (z55 : Int32) (z56 : Int32) (z57 : Int32) (z58 : Nat → Int32), (n0.toInt ≥ 0) ∧ (n0.toInt < 64) ∧ (n1.toInt ≥ 0) ∧ (n1.toInt < 4) ∧ (n2.toInt ≥ 0) ∧ (n2.toInt < 24) ∧ (n1.toInt = 1) ∧ (z55.toInt = 7 - n0.toInt % 8) ∧ (0 ≤ z55.toInt ∧ z55.toInt ≤ 7) ∧ ((z55.toInt = 0 → z56.toInt = -1) ∧ (0 < z55.toInt → z56.toInt = n2.toInt)) ∧ (-1 ≤ z56.toInt ∧ z56.toInt ≤ 23) ∧ (0 ≤ z57.toInt ∧ z57.toInt ≤ 63) ∧ (∀ j : Nat, (j : Int) < z55.toInt → (z58 j).toInt = n2.toInt * 64 + (n0.toInt + ((j : Int) + 1))) ∧ (n3.toInt ≥ 0) ∧ (n3.toInt < z55.toInt) ∧ ((z58 n3.toNatClampNeg).toInt = (n2.toInt * 64 + (n0.toInt + (n3.toInt + 1)))) ∧ (r = (z58 n3.toNatClampNeg)) ∧ (u = [])) ∨ (∃ (z68 : Int32) (z69 : Int32) (z70 : Int32) (z71 : Nat → Int32), (n0.toInt ≥ 0) ∧ (n0.toInt < 64) ∧ (n1.toInt ≥ 0) ∧ (n1.toInt < 4) ∧ (n2.toInt ≥ 0) ∧ (n2.toInt < 24) ∧ (n1.toInt = 2) ∧ (z68.toInt = 7 - n0.toInt / 8) ∧ (0 ≤ z68.toInt ∧ z68.toInt ≤ 7) ∧ ((z68.toInt = 0 → z69.toInt = -1) ∧ (0 < z68.toInt → z69.toInt = n2.toInt)) ∧ (-1 ≤ z69.toInt ∧ z69.toInt ≤ 23) ∧ (0 ≤ z70.toInt ∧ z70.toInt ≤ 63) ∧ (∀ j : Nat, (j : Int) < z68.toInt → (z71 j).toInt = n2.toInt * 64 + (n0.toInt + 8 * ((j : Int) + 1))) ∧ (n3.toInt < 0) ∧ (r = (-1)) ∧ (u = [])) ∨ (∃ (z68 : Int32) (z69 : Int32) (z70 : Int32) (z71 : Nat → Int32), (n0.toInt ≥ 0) ∧ (n0.toInt < 64) ∧ (n1.toInt ≥ 0) ∧ (n1.toInt < 4) ∧ (n2.toInt ≥ 0) ∧ (n2.toInt < 24) ∧ (n1.toInt = 2) ∧ (z68.toInt = 7 - n0.toInt / 8) ∧ (0 ≤ z68.toInt ∧ z68.toInt ≤ 7) ∧ ((z68.toInt = 0 → z69.toInt = -1) ∧ (0 < z68.toInt → z69.toInt = n2.toInt)) ∧ (-1 ≤ z69.toInt ∧ z69.toInt ≤ 23) ∧ (0 ≤ z70.toInt ∧ z70.toInt ≤ 63) ∧ (∀ j : Nat, (j : Int) < z68.toInt → (z71 j).toInt = n2.toInt * 64 + (n0.toInt + 8 * ((j : Int) + 1))) ∧ (n3.toInt ≥ 0) ∧ (n3.toInt ≥ z68.toInt) ∧ (r = (-1)) ∧ (u = [])) ∨ (∃ (z68 : Int32) (z69 : Int32) (z70 : Int32) (z71 : Nat → Int32), (n0.toInt ≥ 0) ∧ (n0.toInt < 64) ∧ (n1.toInt ≥ 0) ∧ (n1.toInt < 4) ∧ (n2.toInt ≥ 0) ∧ (n2.toInt < 24) ∧ (n1.toInt = 2) ∧ (z68.toInt = 7 - n0.toInt / 8) ∧ (0 ≤ z68.toInt ∧ z68.toInt ≤ 7) ∧ ((z68.toInt = 0 → z69.toInt = -1) ∧ (0 < z68.toInt → z69.toInt = n2.toInt)) ∧ (-1 ≤ z69.toInt ∧ z69.toInt ≤ 23) ∧ (0 ≤ z70.toInt ∧ z70.toInt ≤ 63) ∧ (∀ j : Nat, (j : Int) < z68.toInt → (z71 j).toInt = n2.toInt * 64 + (n0.toInt + 8 * ((j : Int) + 1))) ∧ (n3.toInt ≥ 0) ∧ (n3.toInt < z68.toInt) ∧ ((z71 n3.toNatClampNeg).toInt = (n2.toInt * 64 + (n0.toInt + 8 * (n3.toInt + 1)))) ∧ (r = (z71 n3.toNatClampNeg)) ∧ (u = [])) ∨ (∃ (z81 : Int32) (z82 : Int32) (z83 : Int32) (z84 : Nat → Int32), (n0.toInt ≥ 0) ∧ (n0.toInt < 64) ∧ (n1.toInt ≥ 0) ∧ (n1.toInt < 4) ∧ (n2.toInt ≥ 0) ∧ (n2.toInt < 24) ∧ (n1.toInt = 3) ∧ (z81.toInt = n0.toInt % 8) ∧ (0 ≤ z81.toInt ∧ z81.toInt ≤ 7) ∧ ((z81.toInt = 0 → z82.toInt = -1) ∧ (0 < z81.toInt → z82.toInt = n2.toInt)) ∧ (-1 ≤ z82.toInt ∧ z82.toInt ≤ 23) ∧ (0 ≤ z83.toInt ∧ z83.toInt ≤ 63) ∧ (∀ j : Nat, (j : Int) < z81.toInt → (z84 j).toInt = n2.toInt * 64 + (n0.toInt - ((j : Int) + 1))) ∧ (n3.toInt < 0) ∧ (r = (-1)) ∧ (u = [])) ∨ (∃ (z81 : Int32) (z82 : Int32) (z83 : Int32) (z84 : Nat → Int32), (n0.toInt ≥ 0) ∧ (n0.toInt < 64) ∧ (n1.toInt ≥ 0) ∧ (n1.toInt < 4) ∧ (n2.toInt ≥ 0) ∧ (n2.toInt < 24) ∧ (n1.toInt = 3) ∧ (z81.toInt = n0.toInt % 8) ∧ (0 ≤ z81.toInt ∧ z81.toInt ≤ 7) ∧ ((z81.toInt = 0 → z82.toInt = -1) ∧ (0 < z81.toInt → z82.toInt = n2.toInt)) ∧ (-1 ≤ z82.toInt ∧ z82.toInt ≤ 23) ∧ (0 ≤ z83.toInt ∧ z83.toInt ≤ 63) ∧ (∀ j : Nat, (j : Int) < z81.toInt → (z84 j).toInt = n2.toInt * 64 + (n0.toInt - ((j : Int) + 1))) ∧ (n3.toInt ≥ 0) ∧ (n3.toInt ≥ z81.toInt) ∧ (r = (-1)) ∧ (u = [])) ∨ (∃ (z81 : Int32) (z82 : Int32) (z83 : Int32) (z84 : Nat → Int32), (n0.toInt ≥ 0) ∧ (n0.toInt < 64) ∧ (n1.toInt ≥ 0) ∧ (n1.toInt < 4) ∧ (n2.toInt ≥ 0) ∧ (n2.toInt < 24) ∧ (n1.toInt = 3) ∧ (z81.toInt = n0.toInt % 8) ∧ (0 ≤ z81.toInt ∧ z81.toInt ≤ 7) ∧ ((z81.toInt = 0 → z82.toInt = -1) ∧ (0 < z81.toInt → z82.toInt = n2.toInt)) ∧ (-1 ≤ z82.toInt ∧ z82.toInt ≤ 23) ∧ (0 ≤ z83.toInt ∧ z83.toInt ≤ 63) ∧ (∀ j : Nat, (j : Int) < z81.toInt → (z84 j).toInt = n2.toInt * 64 + (n0.toInt - ((j : Int) + 1))) ∧ (n3.toInt ≥ 0) ∧ (n3.toInt < z81.toInt) ∧ ((z84 n3.toNatClampNeg).toInt = (n2.toInt * 64 + (n0.toInt - (n3.toInt + 1)))) ∧ (r = (z84 n3.toNatClampNeg)) ∧ (u = []))) (g5_B G (va_A [(a0, .inr (11, [.ref a1, .ref a2, .ref a3, .ref a4, .ref a5, .ref a6, .ref a7, .ref a8, .ref a9, .ref a10, .int 0, .int 0, .int (-1), .ref a11, .int 0, .ref a12, .int 0])), (a4, .inr (5, [.ref a1, .ref a13, .ref a14, .int 0, .int 0, .int 0, .int 0, .int 0, .int 0, .int 0, .int 0, .int 0, .int 0])), (a1, .inr (1, [.long 0, .int 1000, .int (-1), .int (-1), .int 0, .ref a15, .ref a16, .ref a17, .ref a18, .ref a19, .ref a20, .long 0, .ref a21])), (a14, .inl (G.2 0, 200, .inl (fun _ => 0))), (a21, .inl (G.2 1, 24, .inr (.inl (fun _ => 0)))), (a19, .inr (6, [.int 8, .int 5, .ref a22, .int 0]))] sz)) (va_A [(a0, .inr (11, [.ref a1, .ref a2, .ref a3, .ref a4, .ref a5, .ref a6, .ref a7, .ref a8, .ref a9, .ref a10, .int 0, .int 0, .int (-1), .ref a11, .int 0, .ref a12, .int 0])), (a4, .inr (5, [.ref a1, .ref a13, .ref a14, .int 0, .int 0, .int 0, .int 0, .int 0, .int 0, .int 0, .int 0, .int 0, .int 0])), (a1, .inr (1, [.long 0, .int 1000, .int (-1), .int (-1), .int 0, .ref a15, .ref a16, .ref a17, .ref a18, .ref a19, .ref a20, .long 0, .ref a21])), (a14, .inl (G.2 0, 200, .inl (fun _ => 0))), (a21, .inl (G.2 1, 24, .inr (.inl (fun _ => 0)))), (a19, .inr (6, [.int 8, .int 5, .ref a22, .int 0]))] sz)) 0 0 (va_A [(a0, .inr (11, [.ref a1, .ref a2, .ref a3, .ref a4, .ref a5, .ref a6, .ref a7, .ref a8, .ref a9, .ref a10, .int 0, .int 0, .int (-1), .ref a11, .int 0, .ref a12, .int 0])), (a4, .inr (5, [.ref a1, .ref a13, .ref a14, .int 0, .int 0, .int 0, .int 0, .int 0, .int 0, .int 0, .int 0, .int 0, .int 0])), (a1, .inr (1, [.long 0, .int 1000, .int (-1), .int (-1), .int 0, .ref a15, .ref a16, .ref a17, .ref a18, .ref a19, .ref a20, .long 0, .ref a21])), (a14, .inl (G.2 0, 200, .inl (fun _ => 0))), (a21, .inl (G.2 1, 24, .inr (.inl (fun _ => 0)))), (a19, .inr (6, [.int 8, .int 5, .ref a22, .int 0]))] sz) := by
  refine Met.ofW (cc := cX11_point) (maxL := 5) (ret := (some .int)) (by decide) rfl ?_
  intro p e s m args below meth c s₁ B hml hv
  obtain ⟨rfl, hsz, hP, hK, hD0, hN, hT⟩ := hv
  have hx := B.exec
  have hb := B.bytes
  have hr := B.returns
  have hts : ∀ w ∈ tblG, w.before _ s = true := fun w h => atoms_spec (ws := (wsG yX11_point cX11_point 5 (some .int))) B.pre w (List.mem_cons_of_mem _ h)
  have hown : s.vm.findClass RX11 = some m.cls := findClass_of_methodNamed B.named
  have hlocks := B.notSynchronized
  subst hsz
  have hD := hD0.self (sz := s.heap.size)
  generalize hAe : va_A [(a0, .inr (11, [.ref a1, .ref a2, .ref a3, .ref a4, .ref a5, .ref a6, .ref a7, .ref a8, .ref a9, .ref a10, .int 0, .int 0, .int (-1), .ref a11, .int 0, .ref a12, .int 0])), (a4, .inr (5, [.ref a1, .ref a13, .ref a14, .int 0, .int 0, .int 0, .int 0, .int 0, .int 0, .int 0, .int 0, .int 0, .int 0])), (a1, .inr (1, [.long 0, .int 1000, .int (-1), .int (-1), .int 0, .ref a15, .ref a16, .ref a17, .ref a18, .ref a19, .ref a20, .long 0, .ref a21])), (a14, .inl (G.2 0, 200, .inl (fun _ => 0))), (a21, .inl (G.2 1, 24, .inr (.inl (fun _ => 0)))), (a19, .inr (6, [.int 8, .int 5, .ref a22, .int 0]))] s.heap.size = A at hD hT ⊢
  have hA : ∀ q : Nat, s.heap.size ≤ q → A q := fun q h => by rw [← hAe]; exact Or.inr h
  have hS : va_S A s.heap s.heap [] := va_S.rf
  have hP : va_P G.1 vwCl [(a0, .inr (11, [.ref a1, .ref a2, .ref a3, .ref a4, .ref a5, .ref a6, .ref a7, .ref a8, .ref a9, .ref a10, .int 0, .int 0, .int (-1), .ref a11, .int 0, .ref a12, .int 0])), (a4, .inr (5, [.ref a1, .ref a13, .ref a14, .int 0, .int 0, .int 0, .int 0, .int 0, .int 0, .int 0, .int 0, .int 0, .int 0])), (a1, .inr (1, [.long 0, .int 1000, .int (-1), .int (-1), .int 0, .ref a15, .ref a16, .ref a17, .ref a18, .ref a19, .ref a20, .long 0, .ref a21])), (a14, .inl (G.2 0, 200, .inl (fun _ => 0))), (a21, .inl (G.2 1, 24, .inr (.inl (fun _ => 0)))), (a19, .inr (6, [.int 8, .int 5, .ref a22, .int 0]))] s.heap := hP
  have hl := lv_entry ([.ref a0, .int n0, .int n1, .int n2, .int n3]) (n := 5) (Nat.le_of_ble_eq_true rfl)
  rw [lg_entry_eq]
  generalize (lg_sl ([.ref a0, .int n0, .int n1, .int n2, .int n3]) ++ List.replicate (5 - (lg_sl ([.ref a0, .int n0, .int n1, .int n2, .int n3])).length) Slot.unset).toArray = ls at hl ⊢
  have hl : lv_has ls 5 [(0, .ref a0), (1, .int n0), (2, .int n1), (3, .int n2), (4, .int n3)] := hl
  refine lv_iload_n hx hb dX11_point_0 rfl (lv_at hl 1 rfl) ?_
  refine lv_iload_n hx hb dX11_point_1 rfl (lv_at hl 2 rfl) ?_
  refine lv_iload_n hx hb dX11_point_2 rfl (lv_at hl 3 rfl) ?_
  have hPc := hP.sub (ws' := []) [] rfl
  have hDc := hD.sub (ws' := []) [] (by decide) rfl
  have hFc := va_free (wc := []) hD hS hA [] rfl
  refine va_calli (va_runS (As := [.int n0, .int n1, .int n2]) (rest := []) ⟨hx, hb, hml, hown, hts⟩ (kX11_isLook_5 l G s.heap.size n0 n1 n2) (va_cwS 3 hts gS_X11_207 rfl rfl rfl hs_X11_isLook ⟨Nat.le_of_ble_eq_true rfl, Nat.le_of_ble_eq_true rfl⟩) (g5_preS hPc hK hDc hN hT hS hFc) rfl rfl hl.1 rfl (lv_room (Nat.le_of_ble_eq_true rfl)) dX11_point_3 ⟨Nat.le_of_ble_eq_true rfl, Nat.le_of_ble_eq_true rfl⟩) hS (fun q _ h => hFc q h) hFc (fun r u t H1 locs ht hvm hw hB hz1 hk1 hS => ?_)
  obtain ⟨hP1, hD1⟩ := hB
  rw [ht] at hP1
  rcases hw with ⟨i_1, rfl, rfl⟩ | ⟨i_2, i_3, rfl, rfl⟩ | ⟨i_4, i_5, i_6, rfl, rfl⟩ | ⟨i_7, i_8, i_9, i_10, rfl, rfl⟩ | ⟨i_11, i_12, i_13, i_14, i_15, rfl, rfl⟩ | ⟨i_16, i_17, i_18, i_19, i_20, i_21, rfl, rfl⟩ | ⟨i_22, i_23, i_24, i_25, i_26, i_27, rfl, rfl⟩
  ·
    have hP := g5_same hP hk1
    generalize H1 = H at hP hS ⊢
    refine lv_if_ne (tgt := 11) hx hb dX11_point_6 (by decide) (fun c_28 => ?_) (fun c_28 => ?_)
    ·
      exact absurd c_28 (by decide)
    ·
      refine lv_iconst (v := (-1)) hx hb dX11_point_9 (by decide) ?_
      have hP := hP.sub (ws' := []) [] rfl
      have hD := hD.sub (ws' := []) [] (by decide) rfl
      exact W.iret (v := (-1)) hx hb hr (fun t ht hW => ⟨⟨(-1), [], rfl, Or.inl (⟨i_1, rfl, rfl⟩), by rw [ht]; exact hP, hD⟩, hS.F ht⟩) hS.2.2 dX11_point_10
  ·
    have hP := g5_same hP hk1
    generalize H1 = H at hP hS ⊢
    refine lv_if_ne (tgt := 11) hx hb dX11_point_6 (by decide) (fun c_29 => ?_) (fun c_29 => ?_)
    ·
      exact absurd c_29 (by decide)
    ·
      refine lv_iconst (v := (-1)) hx hb dX11_point_9 (by decide) ?_
      have hP := hP.sub (ws' := []) [] rfl
      have hD := hD.sub (ws' := []) [] (by decide) rfl
      exact W.iret (v := (-1)) hx hb hr (fun t ht hW => ⟨⟨(-1), [], rfl, Or.inr (Or.inl (⟨i_2, i_3, rfl, rfl⟩)), by rw [ht]; exact hP, hD⟩, hS.F ht⟩) hS.2.2 dX11_point_10
  ·
    have hP := g5_same hP hk1
    generalize H1 = H at hP hS ⊢
    refine lv_if_ne (tgt := 11) hx hb dX11_point_6 (by decide) (fun c_30 => ?_) (fun c_30 => ?_)
    ·
      exact absurd c_30 (by decide)
    ·
      refine lv_iconst (v := (-1)) hx hb dX11_point_9 (by decide) ?_
      have hP := hP.sub (ws' := []) [] rfl
      have hD := hD.sub (ws' := []) [] (by decide) rfl
      exact W.iret (v := (-1)) hx hb hr (fun t ht hW => ⟨⟨(-1), [], rfl, Or.inr (Or.inr (Or.inl (⟨i_4, i_5, i_6, rfl, rfl⟩))), by rw [ht]; exact hP, hD⟩, hS.F ht⟩) hS.2.2 dX11_point_10
  ·
    have hP := g5_same hP hk1
    generalize H1 = H at hP hS ⊢
    refine lv_if_ne (tgt := 11) hx hb dX11_point_6 (by decide) (fun c_31 => ?_) (fun c_31 => ?_)
    ·
      exact absurd c_31 (by decide)
    ·
      refine lv_iconst (v := (-1)) hx hb dX11_point_9 (by decide) ?_
      have hP := hP.sub (ws' := []) [] rfl
      have hD := hD.sub (ws' := []) [] (by decide) rfl
      exact W.iret (v := (-1)) hx hb hr (fun t ht hW => ⟨⟨(-1), [], rfl, Or.inr (Or.inr (Or.inr (Or.inl (⟨i_7, i_8, i_9, i_10, rfl, rfl⟩)))), by rw [ht]; exact hP, hD⟩, hS.F ht⟩) hS.2.2 dX11_point_10
  ·
    have hP := g5_same hP hk1
    generalize H1 = H at hP hS ⊢
    refine lv_if_ne (tgt := 11) hx hb dX11_point_6 (by decide) (fun c_32 => ?_) (fun c_32 => ?_)
    ·
      exact absurd c_32 (by decide)
    ·
      refine lv_iconst (v := (-1)) hx hb dX11_point_9 (by decide) ?_
      have hP := hP.sub (ws' := []) [] rfl
      have hD := hD.sub (ws' := []) [] (by decide) rfl
      exact W.iret (v := (-1)) hx hb hr (fun t ht hW => ⟨⟨(-1), [], rfl, Or.inr (Or.inr (Or.inr (Or.inr (Or.inl (⟨i_11, i_12, i_13, i_14, i_15, rfl, rfl⟩))))), by rw [ht]; exact hP, hD⟩, hS.F ht⟩) hS.2.2 dX11_point_10
  ·
    have hP := g5_same hP hk1
    generalize H1 = H at hP hS ⊢
    refine lv_if_ne (tgt := 11) hx hb dX11_point_6 (by decide) (fun c_33 => ?_) (fun c_33 => ?_)
    ·
      exact absurd c_33 (by decide)
    ·
      refine lv_iconst (v := (-1)) hx hb dX11_point_9 (by decide) ?_
      have hP := hP.sub (ws' := []) [] rfl
      have hD := hD.sub (ws' := []) [] (by decide) rfl
      exact W.iret (v := (-1)) hx hb hr (fun t ht hW => ⟨⟨(-1), [], rfl, Or.inr (Or.inr (Or.inr (Or.inr (Or.inr (Or.inl (⟨i_16, i_17, i_18, i_19, i_20, i_21, rfl, rfl⟩)))))), by rw [ht]; exact hP, hD⟩, hS.F ht⟩) hS.2.2 dX11_point_10
  ·
    have hP := g5_same hP hk1
    generalize H1 = H at hP hS ⊢
    refine lv_if_ne (tgt := 11) hx hb dX11_point_6 (by decide) (fun c_34 => ?_) (fun c_34 => ?_)
    ·
      refine lv_aload_n hx hb dX11_point_11 rfl (lv_at hl 0 rfl) ?_
      refine va_get (D := G.1) (ci := 11) (v := .ref a4) (C := RX11) (T := TX11) (N := 17) hx hb hts inG_X11 hown hK hP 0 rfl rfl 3 (by decide) (hts _ fl_X11_29) (fun _ h9 => h9) rfl dX11_point_12 ?_
      refine lv_iload_n hx hb dX11_point_15 rfl (lv_at hl 1 rfl) ?_
      refine lv_iload_n hx hb dX11_point_16 rfl (lv_at hl 2 rfl) ?_
      refine lv_iload_n hx hb dX11_point_17 rfl (lv_at hl 3 rfl) ?_
      refine lv_iconst (v := 0) hx hb dX11_point_18 (by decide) ?_
      rcases (show n1.toInt = 0 ∨ n1.toInt = 1 ∨ n1.toInt = 2 ∨ n1.toInt = 3 by omega) with i_35 | i_35 | i_35 | i_35
      ·
        have e_35 : n1 = 0 := g5_toc (by decide) i_35
        subst e_35
        have hPc := hP.sub (ws' := [(a4, .inr (5, [.ref a1, .ref a13, .ref a14, .int 0, .int 0, .int 0, .int 0, .int 0, .int 0, .int 0, .int 0, .int 0, .int 0])), (a1, .inr (1, [.long 0, .int 1000, .int (-1), .int (-1), .int 0, .ref a15, .ref a16, .ref a17, .ref a18, .ref a19, .ref a20, .long 0, .ref a21])), (a14, .inl (G.2 0, 200, .inl (fun _ => 0))), (a21, .inl (G.2 1, 24, .inr (.inl (fun _ => 0)))), (a19, .inr (6, [.int 8, .int 5, .ref a22, .int 0]))]) [1, 2, 3, 4, 5] rfl
        have hDc := hD.sub (ws' := [(a4, .inr (5, [.ref a1, .ref a13, .ref a14, .int 0, .int 0, .int 0, .int 0, .int 0, .int 0, .int 0, .int 0, .int 0, .int 0])), (a1, .inr (1, [.long 0, .int 1000, .int (-1), .int (-1), .int 0, .ref a15, .ref a16, .ref a17, .ref a18, .ref a19, .ref a20, .long 0, .ref a21])), (a14, .inl (G.2 0, 200, .inl (fun _ => 0))), (a21, .inl (G.2 1, 24, .inr (.inl (fun _ => 0)))), (a19, .inr (6, [.int 8, .int 5, .ref a22, .int 0]))]) [1, 2, 3, 4, 5] (by decide) rfl
        have hFc := va_free (wc := [(a4, .inr (5, [.ref a1, .ref a13, .ref a14, .int 0, .int 0, .int 0, .int 0, .int 0, .int 0, .int 0, .int 0, .int 0, .int 0])), (a1, .inr (1, [.long 0, .int 1000, .int (-1), .int (-1), .int 0, .ref a15, .ref a16, .ref a17, .ref a18, .ref a19, .ref a20, .long 0, .ref a21])), (a14, .inl (G.2 0, 200, .inl (fun _ => 0))), (a21, .inl (G.2 1, 24, .inr (.inl (fun _ => 0)))), (a19, .inr (6, [.int 8, .int 5, .ref a22, .int 0]))]) hD hS hA [1, 2, 3, 4, 5] rfl
        refine va_callv (va_runV (As := [.int n0, .int 0, .int n2, .int 0]) (rest := []) ⟨hx, hb, hml, hown, hts⟩ (k_run0 l G a4 a1 a14 a21 a19 a13 a15 a16 a17 a18 a20 a22 H.size n0 n2 0 0 0 0 0 0 0 0 0 (fun _ => 0) ⟨by omega, by omega⟩ ⟨by omega, by omega⟩) (cwV 4 hts gV_X11_210 rfl rfl rfl hv_X5_run ⟨Nat.le_of_ble_eq_true rfl, Nat.le_of_ble_eq_true rfl⟩) (g5_preV hPc hK hDc hN hT hS hFc (ci := 5) (q0 := 0) rfl rfl) rfl rfl hl.1 rfl (lv_room (Nat.le_of_ble_eq_true rfl)) dX11_point_19 ⟨Nat.le_of_ble_eq_true rfl, Nat.le_of_ble_eq_true rfl⟩) hS (fun q _ h => hFc q h) hFc (fun u t H1 locs ht hvm hw hB hz1 hk1 hS => ?_)
        obtain ⟨hP1, hD1⟩ := hB
        rw [ht] at hP1
        obtain ⟨z42, z43, z44, z45, i_36, i_37, i_38, i_39, i_40, i_41, rfl⟩ := hw
        have i_36 : z42.toInt = n0.toInt / 8 := i_36
        have i_37 : 0 ≤ z42.toInt ∧ z42.toInt ≤ 7 := i_37
        have i_38 : (z42.toInt = 0 → z43.toInt = -1) ∧ (0 < z42.toInt → z43.toInt = n2.toInt) := i_38
        have i_39 : -1 ≤ z43.toInt ∧ z43.toInt ≤ 23 := i_39
        have i_40 : 0 ≤ z44.toInt ∧ z44.toInt ≤ 63 := i_40
        have i_41 : ∀ j : Nat, (j : Int) < z42.toInt → (z45 j).toInt = n2.toInt * 64 + (n0.toInt - 8 * ((j : Int) + 1)) := i_41
        obtain ⟨hP, hD⟩ := va_join (wr := [(a0, .inr (11, [.ref a1, .ref a2, .ref a3, .ref a4, .ref a5, .ref a6, .ref a7, .ref a8, .ref a9, .ref a10, .int 0, .int 0, .int (-1), .ref a11, .int 0, .ref a12, .int 0]))]) (w1 := [(a4, .inr (5, [.ref a1, .ref a13, .ref a14, .int z42, .int (-1), .int z43, .int 1000000, .int 0, .int 0, .int z44, .int 0, .int n2, .int 0])), (a1, .inr (1, [.long 0, .int 1000, .int (-1), .int (-1), .int 0, .ref a15, .ref a16, .ref a17, .ref a18, .ref a19, .ref a20, .long 0, .ref a21])), (a14, .inl (G.2 0, 200, .inl z45)), (a21, .inl (G.2 1, 24, .inr (.inl (fun _ => 0)))), (a19, .inr (6, [.int 8, .int 5, .ref a22, .int 0]))]) hP hD [1, 2, 3, 4, 5] [0] rfl rfl (by decide) (by decide) hk1 hFc hP1 hD1
        generalize H1 = H at hP hS ⊢
        have hP : va_P G.1 vwCl [(a0, .inr (11, [.ref a1, .ref a2, .ref a3, .ref a4, .ref a5, .ref a6, .ref a7, .ref a8, .ref a9, .ref a10, .int 0, .int 0, .int (-1), .ref a11, .int 0, .ref a12, .int 0])), (a4, .inr (5, [.ref a1, .ref a13, .ref a14, .int z42, .int (-1), .int z43, .int 1000000, .int 0, .int 0, .int z44, .int 0, .int n2, .int 0])), (a1, .inr (1, [.long 0, .int 1000, .int (-1), .int (-1), .int 0, .ref a15, .ref a16, .ref a17, .ref a18, .ref a19, .ref a20, .long 0, .ref a21])), (a14, .inl (G.2 0, 200, .inl z45)), (a21, .inl (G.2 1, 24, .inr (.inl (fun _ => 0)))), (a19, .inr (6, [.int 8, .int 5, .ref a22, .int 0]))] H := hP
        have hD : va_D A [(a0, .inr (11, [.ref a1, .ref a2, .ref a3, .ref a4, .ref a5, .ref a6, .ref a7, .ref a8, .ref a9, .ref a10, .int 0, .int 0, .int (-1), .ref a11, .int 0, .ref a12, .int 0])), (a4, .inr (5, [.ref a1, .ref a13, .ref a14, .int z42, .int (-1), .int z43, .int 1000000, .int 0, .int 0, .int z44, .int 0, .int n2, .int 0])), (a1, .inr (1, [.long 0, .int 1000, .int (-1), .int (-1), .int 0, .ref a15, .ref a16, .ref a17, .ref a18, .ref a19, .ref a20, .long 0, .ref a21])), (a14, .inl (G.2 0, 200, .inl z45)), (a21, .inl (G.2 1, 24, .inr (.inl (fun _ => 0)))), (a19, .inr (6, [.int 8, .int 5, .ref a22, .int 0]))] := hD
        refine lv_iload hx hb dX11_point_22 (lv_at hl 4 rfl) ?_
        refine lv_if_lt (tgt := 52) hx hb dX11_point_24 (by decide) (fun c_46 => ?_) (fun c_46 => ?_)
        ·
          have i_46 : n3.toInt < 0 := by have z := g5_lt (a := n3.toInt) (b := 0) (by rfl) (by decide) c_46; omega
          refine lv_iconst (v := (-1)) hx hb dX11_point_52 (by decide) ?_
          have hP := hP.sub (ws' := []) [] rfl
          have hD := hD.sub (ws' := []) [] (by decide) rfl
          exact W.iret (v := (-1)) hx hb hr (fun t ht hW => ⟨⟨(-1), [], rfl, Or.inr (Or.inr (Or.inr (Or.inr (Or.inr (Or.inr (Or.inl (⟨z42, z43, z44, z45, i_22, i_23, i_24, i_25, i_26, i_27, i_35, i_36, i_37, i_38, i_39, i_40, i_41, i_46, rfl, rfl⟩))))))), by rw [ht]; exact hP, hD⟩, hS.F ht⟩) hS.2.2 dX11_point_53
        ·
          have i_46 : n3.toInt ≥ 0 := by have z := g5_ltN (a := n3.toInt) (b := 0) (by rfl) (by decide) c_46; omega
          refine lv_iload hx hb dX11_point_27 (lv_at hl 4 rfl) ?_
          refine lv_aload_n hx hb dX11_point_29 rfl (lv_at hl 0 rfl) ?_
          refine va_get (D := G.1) (ci := 11) (v := .ref a4) (C := RX11) (T := TX11) (N := 17) hx hb hts inG_X11 hown hK hP 0 rfl rfl 3 (by decide) (hts _ fl_X11_29) (fun _ h9 => h9) rfl dX11_point_30 ?_
          refine va_get (D := G.1) (ci := 5) (v := .int z42) (C := RX5) (T := TX5) (N := 13) hx hb hts inG_X5 hown hK hP 1 rfl rfl 3 (by decide) (hts _ fl_X11_216) (fun _ h9 => h9) rfl dX11_point_33 ?_
          refine lv_icmp_ge (tgt := 52) hx hb dX11_point_36 (by decide) (fun c_47 => ?_) (fun c_47 => ?_)
          ·
            have i_47 : n3.toInt ≥ z42.toInt := by have z := g5_ge (a := n3.toInt) (b := z42.toInt) (by rfl) (by rfl) c_47; omega
            refine lv_iconst (v := (-1)) hx hb dX11_point_52 (by decide) ?_
            have hP := hP.sub (ws' := []) [] rfl
            have hD := hD.sub (ws' := []) [] (by decide) rfl
            exact W.iret (v := (-1)) hx hb hr (fun t ht hW => ⟨⟨(-1), [], rfl, Or.inr (Or.inr (Or.inr (Or.inr (Or.inr (Or.inr (Or.inr (Or.inl (⟨z42, z43, z44, z45, i_22, i_23, i_24, i_25, i_26, i_27, i_35, i_36, i_37, i_38, i_39, i_40, i_41, i_46, i_47, rfl, rfl⟩)))))))), by rw [ht]; exact hP, hD⟩, hS.F ht⟩) hS.2.2 dX11_point_53
          ·
            have i_47 : n3.toInt < z42.toInt := by have z := g5_geN (a := n3.toInt) (b := z42.toInt) (by rfl) (by rfl) c_47; omega
            refine lv_aload_n hx hb dX11_point_39 rfl (lv_at hl 0 rfl) ?_
            refine va_get (D := G.1) (ci := 11) (v := .ref a4) (C := RX11) (T := TX11) (N := 17) hx hb hts inG_X11 hown hK hP 0 rfl rfl 3 (by decide) (hts _ fl_X11_29) (fun _ h9 => h9) rfl dX11_point_40 ?_
            refine va_get (D := G.1) (ci := 5) (v := .ref a14) (C := RX5) (T := TX5) (N := 13) hx hb hts inG_X5 hown hK hP 1 rfl rfl 2 (by decide) (hts _ fl_X11_228) (fun _ h9 => h9) rfl dX11_point_43 ?_
            refine lv_iload hx hb dX11_point_46 (lv_at hl 4 rfl) ?_
            have tz_48 := g5_clamp n3
            have t_48 := i_41 (n3.toNatClampNeg) (by omega)
            refine va_iald hx hb hK hP 3 0 rfl rfl (i := n3) (vp_in_iff.mpr ⟨by omega, by omega⟩) dX11_point_48 ?_
            refine lv_goto (tgt := 53) hx hb dX11_point_49 (by decide) ?_
            have hP := hP.sub (ws' := []) [] rfl
            have hD := hD.sub (ws' := []) [] (by decide) rfl
            exact W.iret (v := (z45 n3.toNatClampNeg)) hx hb hr (fun t ht hW => ⟨⟨(z45 n3.toNatClampNeg), [], rfl, Or.inr (Or.inr (Or.inr (Or.inr (Or.inr (Or.inr (Or.inr (Or.inr (Or.inl (⟨z42, z43, z44, z45, i_22, i_23, i_24, i_25, i_26, i_27, i_35, i_36, i_37, i_38, i_39, i_40, i_41, i_46, i_47, (by omega), rfl, rfl⟩))))))))), by rw [ht]; exact hP, hD⟩, hS.F ht⟩) hS.2.2 dX11_point_53
      ·
        have e_35 : n1 = 1 := g5_toc (by decide) i_35
        subst e_35
        have hPc := hP.sub (ws' := [(a4, .inr (5, [.ref a1, .ref a13, .ref a14, .int 0, .int 0, .int 0, .int 0, .int 0, .int 0, .int 0, .int 0, .int 0, .int 0])), (a1, .inr (1, [.long 0, .int 1000, .int (-1), .int (-1), .int 0, .ref a15, .ref a16, .ref a17, .ref a18, .ref a19, .ref a20, .long 0, .ref a21])), (a14, .inl (G.2 0, 200, .inl (fun _ => 0))), (a21, .inl (G.2 1, 24, .inr (.inl (fun _ => 0)))), (a19, .inr (6, [.int 8, .int 5, .ref a22, .int 0]))]) [1, 2, 3, 4, 5] rfl
        have hDc := hD.sub (ws' := [(a4, .inr (5, [.ref a1, .ref a13, .ref a14, .int 0, .int 0, .int 0, .int 0, .int 0, .int 0, .int 0, .int 0, .int 0, .int 0])), (a1, .inr (1, [.long 0, .int 1000, .int (-1), .int (-1), .int 0, .ref a15, .ref a16, .ref a17, .ref a18, .ref a19, .ref a20, .long 0, .ref a21])), (a14, .inl (G.2 0, 200, .inl (fun _ => 0))), (a21, .inl (G.2 1, 24, .inr (.inl (fun _ => 0)))), (a19, .inr (6, [.int 8, .int 5, .ref a22, .int 0]))]) [1, 2, 3, 4, 5] (by decide) rfl
        have hFc := va_free (wc := [(a4, .inr (5, [.ref a1, .ref a13, .ref a14, .int 0, .int 0, .int 0, .int 0, .int 0, .int 0, .int 0, .int 0, .int 0, .int 0])), (a1, .inr (1, [.long 0, .int 1000, .int (-1), .int (-1), .int 0, .ref a15, .ref a16, .ref a17, .ref a18, .ref a19, .ref a20, .long 0, .ref a21])), (a14, .inl (G.2 0, 200, .inl (fun _ => 0))), (a21, .inl (G.2 1, 24, .inr (.inl (fun _ => 0)))), (a19, .inr (6, [.int 8, .int 5, .ref a22, .int 0]))]) hD hS hA [1, 2, 3, 4, 5] rfl
        refine va_callv (va_runV (As := [.int n0, .int 1, .int n2, .int 0]) (rest := []) ⟨hx, hb, hml, hown, hts⟩ (k_run1 l G a4 a1 a14 a21 a19 a13 a15 a16 a17 a18 a20 a22 H.size n0 n2 0 0 0 0 0 0 0 0 0 (fun _ => 0) ⟨by omega, by omega⟩ ⟨by omega, by omega⟩) (cwV 4 hts gV_X11_210 rfl rfl rfl hv_X5_run ⟨Nat.le_of_ble_eq_true rfl, Nat.le_of_ble_eq_true rfl⟩) (g5_preV hPc hK hDc hN hT hS hFc (ci := 5) (q0 := 0) rfl rfl) rfl rfl hl.1 rfl (lv_room (Nat.le_of_ble_eq_true rfl)) dX11_point_19 ⟨Nat.le_of_ble_eq_true rfl, Nat.le_of_ble_eq_true rfl⟩) hS (fun q _ h => hFc q h) hFc (fun u t H1 locs ht hvm hw hB hz1 hk1 hS => ?_)
        obtain ⟨hP1, hD1⟩ := hB
        rw [ht] at hP1
        obtain ⟨z55, z56, z57, z58, i_49, i_50, i_51, i_52, i_53, i_54, rfl⟩ := hw
        have i_49 : z55.toInt = 7 - n0.toInt % 8 := i_49
        have i_50 : 0 ≤ z55.toInt ∧ z55.toInt ≤ 7 := i_50
        have i_51 : (z55.toInt = 0 → z56.toInt = -1) ∧ (0 < z55.toInt → z56.toInt = n2.toInt) := i_51
        have i_52 : -1 ≤ z56.toInt ∧ z56.toInt ≤ 23 := i_52
        have i_53 : 0 ≤ z57.toInt ∧ z57.toInt ≤ 63 := i_53
        have i_54 : ∀ j : Nat, (j : Int) < z55.toInt → (z58 j).toInt = n2.toInt * 64 + (n0.toInt + ((j : Int) + 1)) := i_54
        obtain ⟨hP, hD⟩ := va_join (wr := [(a0, .inr (11, [.ref a1, .ref a2, .ref a3, .ref a4, .ref a5, .ref a6, .ref a7, .ref a8, .ref a9, .ref a10, .int 0, .int 0, .int (-1), .ref a11, .int 0, .ref a12, .int 0]))]) (w1 := [(a4, .inr (5, [.ref a1, .ref a13, .ref a14, .int z55, .int (-1), .int z56, .int 1000000, .int 0, .int 0, .int z57, .int 1, .int n2, .int 0])), (a1, .inr (1, [.long 0, .int 1000, .int (-1), .int (-1), .int 0, .ref a15, .ref a16, .ref a17, .ref a18, .ref a19, .ref a20, .long 0, .ref a21])), (a14, .inl (G.2 0, 200, .inl z58)), (a21, .inl (G.2 1, 24, .inr (.inl (fun _ => 0)))), (a19, .inr (6, [.int 8, .int 5, .ref a22, .int 0]))]) hP hD [1, 2, 3, 4, 5] [0] rfl rfl (by decide) (by decide) hk1 hFc hP1 hD1
        generalize H1 = H at hP hS ⊢
        have hP : va_P G.1 vwCl [(a0, .inr (11, [.ref a1, .ref a2, .ref a3, .ref a4, .ref a5, .ref a6, .ref a7, .ref a8, .ref a9, .ref a10, .int 0, .int 0, .int (-1), .ref a11, .int 0, .ref a12, .int 0])), (a4, .inr (5, [.ref a1, .ref a13, .ref a14, .int z55, .int (-1), .int z56, .int 1000000, .int 0, .int 0, .int z57, .int 1, .int n2, .int 0])), (a1, .inr (1, [.long 0, .int 1000, .int (-1), .int (-1), .int 0, .ref a15, .ref a16, .ref a17, .ref a18, .ref a19, .ref a20, .long 0, .ref a21])), (a14, .inl (G.2 0, 200, .inl z58)), (a21, .inl (G.2 1, 24, .inr (.inl (fun _ => 0)))), (a19, .inr (6, [.int 8, .int 5, .ref a22, .int 0]))] H := hP
        have hD : va_D A [(a0, .inr (11, [.ref a1, .ref a2, .ref a3, .ref a4, .ref a5, .ref a6, .ref a7, .ref a8, .ref a9, .ref a10, .int 0, .int 0, .int (-1), .ref a11, .int 0, .ref a12, .int 0])), (a4, .inr (5, [.ref a1, .ref a13, .ref a14, .int z55, .int (-1), .int z56, .int 1000000, .int 0, .int 0, .int z57, .int 1, .int n2, .int 0])), (a1, .inr (1, [.long 0, .int 1000, .int (-1), .int (-1), .int 0, .ref a15, .ref a16, .ref a17, .ref a18, .ref a19, .ref a20, .long 0, .ref a21])), (a14, .inl (G.2 0, 200, .inl z58)), (a21, .inl (G.2 1, 24, .inr (.inl (fun _ => 0)))), (a19, .inr (6, [.int 8, .int 5, .ref a22, .int 0]))] := hD
        refine lv_iload hx hb dX11_point_22 (lv_at hl 4 rfl) ?_
        refine lv_if_lt (tgt := 52) hx hb dX11_point_24 (by decide) (fun c_59 => ?_) (fun c_59 => ?_)
        ·
          have i_59 : n3.toInt < 0 := by have z := g5_lt (a := n3.toInt) (b := 0) (by rfl) (by decide) c_59; omega
          refine lv_iconst (v := (-1)) hx hb dX11_point_52 (by decide) ?_
          have hP := hP.sub (ws' := []) [] rfl
          have hD := hD.sub (ws' := []) [] (by decide) rfl
          exact W.iret (v := (-1)) hx hb hr (fun t ht hW => ⟨⟨(-1), [], rfl, Or.inr (Or.inr (Or.inr (Or.inr (Or.inr (Or.inr (Or.inr (Or.inr (Or.inr (Or.inl (⟨z55, z56, z57, z58, i_22, i_23, i_24, i_25, i_26, i_27, i_35, i_49, i_50, i_51, i_52, i_53, i_54, i_59, rfl, rfl⟩)))))))))), by rw [ht]; exact hP, hD⟩, hS.F ht⟩) hS.2.2 dX11_point_53
        ·
          have i_59 : n3.toInt ≥ 0 := by have z := g5_ltN (a := n3.toInt) (b := 0) (by rfl) (by decide) c_59; omega
          refine lv_iload hx hb dX11_point_27 (lv_at hl 4 rfl) ?_
          refine lv_aload_n hx hb dX11_point_29 rfl (lv_at hl 0 rfl) ?_
          refine va_get (D := G.1) (ci := 11) (v := .ref a4) (C := RX11) (T := TX11) (N := 17) hx hb hts inG_X11 hown hK hP 0 rfl rfl 3 (by decide) (hts _ fl_X11_29) (fun _ h9 => h9) rfl dX11_point_30 ?_
          refine va_get (D := G.1) (ci := 5) (v := .int z55) (C := RX5) (T := TX5) (N := 13) hx hb hts inG_X5 hown hK hP 1 rfl rfl 3 (by decide) (hts _ fl_X11_216) (fun _ h9 => h9) rfl dX11_point_33 ?_
          refine lv_icmp_ge (tgt := 52) hx hb dX11_point_36 (by decide) (fun c_60 => ?_) (fun c_60 => ?_)
          ·
            have i_60 : n3.toInt ≥ z55.toInt := by have z := g5_ge (a := n3.toInt) (b := z55.toInt) (by rfl) (by rfl) c_60; omega
            refine lv_iconst (v := (-1)) hx hb dX11_point_52 (by decide) ?_
            have hP := hP.sub (ws' := []) [] rfl
            have hD := hD.sub (ws' := []) [] (by decide) rfl
            exact W.iret (v := (-1)) hx hb hr (fun t ht hW => ⟨⟨(-1), [], rfl, Or.inr (Or.inr (Or.inr (Or.inr (Or.inr (Or.inr (Or.inr (Or.inr (Or.inr (Or.inr (Or.inl (⟨z55, z56, z57, z58, i_22, i_23, i_24, i_25, i_26, i_27, i_35, i_49, i_50, i_51, i_52, i_53, i_54, i_59, i_60, rfl, rfl⟩))))))))))), by rw [ht]; exact hP, hD⟩, hS.F ht⟩) hS.2.2 dX11_point_53
          ·
            have i_60 : n3.toInt < z55.toInt := by have z := g5_geN (a := n3.toInt) (b := z55.toInt) (by rfl) (by rfl) c_60; omega
            refine lv_aload_n hx hb dX11_point_39 rfl (lv_at hl 0 rfl) ?_
            refine va_get (D := G.1) (ci := 11) (v := .ref a4) (C := RX11) (T := TX11) (N := 17) hx hb hts inG_X11 hown hK hP 0 rfl rfl 3 (by decide) (hts _ fl_X11_29) (fun _ h9 => h9) rfl dX11_point_40 ?_
            refine va_get (D := G.1) (ci := 5) (v := .ref a14) (C := RX5) (T := TX5) (N := 13) hx hb hts inG_X5 hown hK hP 1 rfl rfl 2 (by decide) (hts _ fl_X11_228) (fun _ h9 => h9) rfl dX11_point_43 ?_
            refine lv_iload hx hb dX11_point_46 (lv_at hl 4 rfl) ?_
            have tz_61 := g5_clamp n3
            have t_61 := i_54 (n3.toNatClampNeg) (by omega)
            refine va_iald hx hb hK hP 3 0 rfl rfl (i := n3) (vp_in_iff.mpr ⟨by omega, by omega⟩) dX11_point_48 ?_
            refine lv_goto (tgt := 53) hx hb dX11_point_49 (by decide) ?_
            have hP := hP.sub (ws' := []) [] rfl
            have hD := hD.sub (ws' := []) [] (by decide) rfl
            exact W.iret (v := (z58 n3.toNatClampNeg)) hx hb hr (fun t ht hW => ⟨⟨(z58 n3.toNatClampNeg), [], rfl, Or.inr (Or.inr (Or.inr (Or.inr (Or.inr (Or.inr (Or.inr (Or.inr (Or.inr (Or.inr (Or.inr (Or.inl (⟨z55, z56, z57, z58, i_22, i_23, i_24, i_25, i_26, i_27, i_35, i_49, i_50, i_51, i_52, i_53, i_54, i_59, i_60, (by omega), rfl, rfl⟩)))))))))))), by rw [ht]; exact hP, hD⟩, hS.F ht⟩) hS.2.2 dX11_point_53
      ·
        have e_35 : n1 = 2 := g5_toc (by decide) i_35
        subst e_35
        have hPc := hP.sub (ws' := [(a4, .inr (5, [.ref a1, .ref a13, .ref a14, .int 0, .int 0, .int 0, .int 0, .int 0, .int 0, .int 0, .int 0, .int 0, .int 0])), (a1, .inr (1, [.long 0, .int 1000, .int (-1), .int (-1), .int 0, .ref a15, .ref a16, .ref a17, .ref a18, .ref a19, .ref a20, .long 0, .ref a21])), (a14, .inl (G.2 0, 200, .inl (fun _ => 0))), (a21, .inl (G.2 1, 24, .inr (.inl (fun _ => 0)))), (a19, .inr (6, [.int 8, .int 5, .ref a22, .int 0]))]) [1, 2, 3, 4, 5] rfl
        have hDc := hD.sub (ws' := [(a4, .inr (5, [.ref a1, .ref a13, .ref a14, .int 0, .int 0, .int 0, .int 0, .int 0, .int 0, .int 0, .int 0, .int 0, .int 0])), (a1, .inr (1, [.long 0, .int 1000, .int (-1), .int (-1), .int 0, .ref a15, .ref a16, .ref a17, .ref a18, .ref a19, .ref a20, .long 0, .ref a21])), (a14, .inl (G.2 0, 200, .inl (fun _ => 0))), (a21, .inl (G.2 1, 24, .inr (.inl (fun _ => 0)))), (a19, .inr (6, [.int 8, .int 5, .ref a22, .int 0]))]) [1, 2, 3, 4, 5] (by decide) rfl
        have hFc := va_free (wc := [(a4, .inr (5, [.ref a1, .ref a13, .ref a14, .int 0, .int 0, .int 0, .int 0, .int 0, .int 0, .int 0, .int 0, .int 0, .int 0])), (a1, .inr (1, [.long 0, .int 1000, .int (-1), .int (-1), .int 0, .ref a15, .ref a16, .ref a17, .ref a18, .ref a19, .ref a20, .long 0, .ref a21])), (a14, .inl (G.2 0, 200, .inl (fun _ => 0))), (a21, .inl (G.2 1, 24, .inr (.inl (fun _ => 0)))), (a19, .inr (6, [.int 8, .int 5, .ref a22, .int 0]))]) hD hS hA [1, 2, 3, 4, 5] rfl
        refine va_callv (va_runV (As := [.int n0, .int 2, .int n2, .int 0]) (rest := []) ⟨hx, hb, hml, hown, hts⟩ (k_run2 l G a4 a1 a14 a21 a19 a13 a15 a16 a17 a18 a20 a22 H.size n0 n2 0 0 0 0 0 0 0 0 0 (fun _ => 0) ⟨by omega, by omega⟩ ⟨by omega, by omega⟩) (cwV 4 hts gV_X11_210 rfl rfl rfl hv_X5_run ⟨Nat.le_of_ble_eq_true rfl, Nat.le_of_ble_eq_true rfl⟩) (g5_preV hPc hK hDc hN hT hS hFc (ci := 5) (q0 := 0) rfl rfl) rfl rfl hl.1 rfl (lv_room (Nat.le_of_ble_eq_true rfl)) dX11_point_19 ⟨Nat.le_of_ble_eq_true rfl, Nat.le_of_ble_eq_true rfl⟩) hS (fun q _ h => hFc q h) hFc (fun u t H1 locs ht hvm hw hB hz1 hk1 hS => ?_)
        obtain ⟨hP1, hD1⟩ := hB
        rw [ht] at hP1
        obtain ⟨z68, z69, z70, z71, i_62, i_63, i_64, i_65, i_66, i_67, rfl⟩ := hw
        have i_62 : z68.toInt = 7 - n0.toInt / 8 := i_62
        have i_63 : 0 ≤ z68.toInt ∧ z68.toInt ≤ 7 := i_63
        have i_64 : (z68.toInt = 0 → z69.toInt = -1) ∧ (0 < z68.toInt → z69.toInt = n2.toInt) := i_64
        have i_65 : -1 ≤ z69.toInt ∧ z69.toInt ≤ 23 := i_65
        have i_66 : 0 ≤ z70.toInt ∧ z70.toInt ≤ 63 := i_66
        have i_67 : ∀ j : Nat, (j : Int) < z68.toInt → (z71 j).toInt = n2.toInt * 64 + (n0.toInt + 8 * ((j : Int) + 1)) := i_67
        obtain ⟨hP, hD⟩ := va_join (wr := [(a0, .inr (11, [.ref a1, .ref a2, .ref a3, .ref a4, .ref a5, .ref a6, .ref a7, .ref a8, .ref a9, .ref a10, .int 0, .int 0, .int (-1), .ref a11, .int 0, .ref a12, .int 0]))]) (w1 := [(a4, .inr (5, [.ref a1, .ref a13, .ref a14, .int z68, .int (-1), .int z69, .int 1000000, .int 0, .int 0, .int z70, .int 2, .int n2, .int 0])), (a1, .inr (1, [.long 0, .int 1000, .int (-1), .int (-1), .int 0, .ref a15, .ref a16, .ref a17, .ref a18, .ref a19, .ref a20, .long 0, .ref a21])), (a14, .inl (G.2 0, 200, .inl z71)), (a21, .inl (G.2 1, 24, .inr (.inl (fun _ => 0)))), (a19, .inr (6, [.int 8, .int 5, .ref a22, .int 0]))]) hP hD [1, 2, 3, 4, 5] [0] rfl rfl (by decide) (by decide) hk1 hFc hP1 hD1
        generalize H1 = H at hP hS ⊢
        have hP : va_P G.1 vwCl [(a0, .inr (11, [.ref a1, .ref a2, .ref a3, .ref a4, .ref a5, .ref a6, .ref a7, .ref a8, .ref a9, .ref a10, .int 0, .int 0, .int (-1), .ref a11, .int 0, .ref a12, .int 0])), (a4, .inr (5, [.ref a1, .ref a13, .ref a14, .int z68, .int (-1), .int z69, .int 1000000, .int 0, .int 0, .int z70, .int 2, .int n2, .int 0])), (a1, .inr (1, [.long 0, .int 1000, .int (-1), .int (-1), .int 0, .ref a15, .ref a16, .ref a17, .ref a18, .ref a19, .ref a20, .long 0, .ref a21])), (a14, .inl (G.2 0, 200, .inl z71)), (a21, .inl (G.2 1, 24, .inr (.inl (fun _ => 0)))), (a19, .inr (6, [.int 8, .int 5, .ref a22, .int 0]))] H := hP
        have hD : va_D A [(a0, .inr (11, [.ref a1, .ref a2, .ref a3, .ref a4, .ref a5, .ref a6, .ref a7, .ref a8, .ref a9, .ref a10, .int 0, .int 0, .int (-1), .ref a11, .int 0, .ref a12, .int 0])), (a4, .inr (5, [.ref a1, .ref a13, .ref a14, .int z68, .int (-1), .int z69, .int 1000000, .int 0, .int 0, .int z70, .int 2, .int n2, .int 0])), (a1, .inr (1, [.long 0, .int 1000, .int (-1), .int (-1), .int 0, .ref a15, .ref a16, .ref a17, .ref a18, .ref a19, .ref a20, .long 0, .ref a21])), (a14, .inl (G.2 0, 200, .inl z71)), (a21, .inl (G.2 1, 24, .inr (.inl (fun _ => 0)))), (a19, .inr (6, [.int 8, .int 5, .ref a22, .int 0]))] := hD
        refine lv_iload hx hb dX11_point_22 (lv_at hl 4 rfl) ?_
        refine lv_if_lt (tgt := 52) hx hb dX11_point_24 (by decide) (fun c_72 => ?_) (fun c_72 => ?_)
        ·
          have i_72 : n3.toInt < 0 := by have z := g5_lt (a := n3.toInt) (b := 0) (by rfl) (by decide) c_72; omega
          refine lv_iconst (v := (-1)) hx hb dX11_point_52 (by decide) ?_
          have hP := hP.sub (ws' := []) [] rfl
          have hD := hD.sub (ws' := []) [] (by decide) rfl
          exact W.iret (v := (-1)) hx hb hr (fun t ht hW => ⟨⟨(-1), [], rfl, Or.inr (Or.inr (Or.inr (Or.inr (Or.inr (Or.inr (Or.inr (Or.inr (Or.inr (Or.inr (Or.inr (Or.inr (Or.inl (⟨z68, z69, z70, z71, i_22, i_23, i_24, i_25, i_26, i_27, i_35, i_62, i_63, i_64, i_65, i_66, i_67, i_72, rfl, rfl⟩))))))))))))), by rw [ht]; exact hP, hD⟩, hS.F ht⟩) hS.2.2 dX11_point_53
        ·
          have i_72 : n3.toInt ≥ 0 := by have z := g5_ltN (a := n3.toInt) (b := 0) (by rfl) (by decide) c_72; omega
          refine lv_iload hx hb dX11_point_27 (lv_at hl 4 rfl) ?_
          refine lv_aload_n hx hb dX11_point_29 rfl (lv_at hl 0 rfl) ?_
          refine va_get (D := G.1) (ci := 11) (v := .ref a4) (C := RX11) (T := TX11) (N := 17) hx hb hts inG_X11 hown hK hP 0 rfl rfl 3 (by decide) (hts _ fl_X11_29) (fun _ h9 => h9) rfl dX11_point_30 ?_
          refine va_get (D := G.1) (ci := 5) (v := .int z68) (C := RX5) (T := TX5) (N := 13) hx hb hts inG_X5 hown hK hP 1 rfl rfl 3 (by decide) (hts _ fl_X11_216) (fun _ h9 => h9) rfl dX11_point_33 ?_
          refine lv_icmp_ge (tgt := 52) hx hb dX11_point_36 (by decide) (fun c_73 => ?_) (fun c_73 => ?_)
          ·
            have i_73 : n3.toInt ≥ z68.toInt := by have z := g5_ge (a := n3.toInt) (b := z68.toInt) (by rfl) (by rfl) c_73; omega
            refine lv_iconst (v := (-1)) hx hb dX11_point_52 (by decide) ?_
            have hP := hP.sub (ws' := []) [] rfl
            have hD := hD.sub (ws' := []) [] (by decide) rfl
            exact W.iret (v := (-1)) hx hb hr (fun t ht hW => ⟨⟨(-1), [], rfl, Or.inr (Or.inr (Or.inr (Or.inr (Or.inr (Or.inr (Or.inr (Or.inr (Or.inr (Or.inr (Or.inr (Or.inr (Or.inr (Or.inl (⟨z68, z69, z70, z71, i_22, i_23, i_24, i_25, i_26, i_27, i_35, i_62, i_63, i_64, i_65, i_66, i_67, i_72, i_73, rfl, rfl⟩)))))))))))))), by rw [ht]; exact hP, hD⟩, hS.F ht⟩) hS.2.2 dX11_point_53
          ·
            have i_73 : n3.toInt < z68.toInt := by have z := g5_geN (a := n3.toInt) (b := z68.toInt) (by rfl) (by rfl) c_73; omega
            refine lv_aload_n hx hb dX11_point_39 rfl (lv_at hl 0 rfl) ?_
            refine va_get (D := G.1) (ci := 11) (v := .ref a4) (C := RX11) (T := TX11) (N := 17) hx hb hts inG_X11 hown hK hP 0 rfl rfl 3 (by decide) (hts _ fl_X11_29) (fun _ h9 => h9) rfl dX11_point_40 ?_
            refine va_get (D := G.1) (ci := 5) (v := .ref a14) (C := RX5) (T := TX5) (N := 13) hx hb hts inG_X5 hown hK hP 1 rfl rfl 2 (by decide) (hts _ fl_X11_228) (fun _ h9 => h9) rfl dX11_point_43 ?_
            refine lv_iload hx hb dX11_point_46 (lv_at hl 4 rfl) ?_
            have tz_74 := g5_clamp n3
            have t_74 := i_67 (n3.toNatClampNeg) (by omega)
            refine va_iald hx hb hK hP 3 0 rfl rfl (i := n3) (vp_in_iff.mpr ⟨by omega, by omega⟩) dX11_point_48 ?_
            refine lv_goto (tgt := 53) hx hb dX11_point_49 (by decide) ?_
            have hP := hP.sub (ws' := []) [] rfl
            have hD := hD.sub (ws' := []) [] (by decide) rfl
            exact W.iret (v := (z71 n3.toNatClampNeg)) hx hb hr (fun t ht hW => ⟨⟨(z71 n3.toNatClampNeg), [], rfl, Or.inr (Or.inr (Or.inr (Or.inr (Or.inr (Or.inr (Or.inr (Or.inr (Or.inr (Or.inr (Or.inr (Or.inr (Or.inr (Or.inr (Or.inl (⟨z68, z69, z70, z71, i_22, i_23, i_24, i_25, i_26, i_27, i_35, i_62, i_63, i_64, i_65, i_66, i_67, i_72, i_73, (by omega), rfl, rfl⟩))))))))))))))), by rw [ht]; exact hP, hD⟩, hS.F ht⟩) hS.2.2 dX11_point_53
      ·
        have e_35 : n1 = 3 := g5_toc (by decide) i_35
        subst e_35
        have hPc := hP.sub (ws' := [(a4, .inr (5, [.ref a1, .ref a13, .ref a14, .int 0, .int 0, .int 0, .int 0, .int 0, .int 0, .int 0, .int 0, .int 0, .int 0])), (a1, .inr (1, [.long 0, .int 1000, .int (-1), .int (-1), .int 0, .ref a15, .ref a16, .ref a17, .ref a18, .ref a19, .ref a20, .long 0, .ref a21])), (a14, .inl (G.2 0, 200, .inl (fun _ => 0))), (a21, .inl (G.2 1, 24, .inr (.inl (fun _ => 0)))), (a19, .inr (6, [.int 8, .int 5, .ref a22, .int 0]))]) [1, 2, 3, 4, 5] rfl
        have hDc := hD.sub (ws' := [(a4, .inr (5, [.ref a1, .ref a13, .ref a14, .int 0, .int 0, .int 0, .int 0, .int 0, .int 0, .int 0, .int 0, .int 0, .int 0])), (a1, .inr (1, [.long 0, .int 1000, .int (-1), .int (-1), .int 0, .ref a15, .ref a16, .ref a17, .ref a18, .ref a19, .ref a20, .long 0, .ref a21])), (a14, .inl (G.2 0, 200, .inl (fun _ => 0))), (a21, .inl (G.2 1, 24, .inr (.inl (fun _ => 0)))), (a19, .inr (6, [.int 8, .int 5, .ref a22, .int 0]))]) [1, 2, 3, 4, 5] (by decide) rfl
        have hFc := va_free (wc := [(a4, .inr (5, [.ref a1, .ref a13, .ref a14, .int 0, .int 0, .int 0, .int 0, .int 0, .int 0, .int 0, .int 0, .int 0, .int 0])), (a1, .inr (1, [.long 0, .int 1000, .int (-1), .int (-1), .int 0, .ref a15, .ref a16, .ref a17, .ref a18, .ref a19, .ref a20, .long 0, .ref a21])), (a14, .inl (G.2 0, 200, .inl (fun _ => 0))), (a21, .inl (G.2 1, 24, .inr (.inl (fun _ => 0)))), (a19, .inr (6, [.int 8, .int 5, .ref a22, .int 0]))]) hD hS hA [1, 2, 3, 4, 5] rfl
        refine va_callv (va_runV (As := [.int n0, .int 3, .int n2, .int 0]) (rest := []) ⟨hx, hb, hml, hown, hts⟩ (k_run3 l G a4 a1 a14 a21 a19 a13 a15 a16 a17 a18 a20 a22 H.size n0 n2 0 0 0 0 0 0 0 0 0 (fun _ => 0) ⟨by omega, by omega⟩ ⟨by omega, by omega⟩) (cwV 4 hts gV_X11_210 rfl rfl rfl hv_X5_run ⟨Nat.le_of_ble_eq_true rfl, Nat.le_of_ble_eq_true rfl⟩) (g5_preV hPc hK hDc hN hT hS hFc (ci := 5) (q0 := 0) rfl rfl) rfl rfl hl.1 rfl (lv_room (Nat.le_of_ble_eq_true rfl)) dX11_point_19 ⟨Nat.le_of_ble_eq_true rfl, Nat.le_of_ble_eq_true rfl⟩) hS (fun q _ h => hFc q h) hFc (fun u t H1 locs ht hvm hw hB hz1 hk1 hS => ?_)
        obtain ⟨hP1, hD1⟩ := hB
        rw [ht] at hP1
        obtain ⟨z81, z82, z83, z84, i_75, i_76, i_77, i_78, i_79, i_80, rfl⟩ := hw
        have i_75 : z81.toInt = n0.toInt % 8 := i_75
        have i_76 : 0 ≤ z81.toInt ∧ z81.toInt ≤ 7 := i_76
        have i_77 : (z81.toInt = 0 → z82.toInt = -1) ∧ (0 < z81.toInt → z82.toInt = n2.toInt) := i_77
        have i_78 : -1 ≤ z82.toInt ∧ z82.toInt ≤ 23 := i_78
        have i_79 : 0 ≤ z83.toInt ∧ z83.toInt ≤ 63 := i_79
        have i_80 : ∀ j : Nat, (j : Int) < z81.toInt → (z84 j).toInt = n2.toInt * 64 + (n0.toInt - ((j : Int) + 1)) := i_80
        obtain ⟨hP, hD⟩ := va_join (wr := [(a0, .inr (11, [.ref a1, .ref a2, .ref a3, .ref a4, .ref a5, .ref a6, .ref a7, .ref a8, .ref a9, .ref a10, .int 0, .int 0, .int (-1), .ref a11, .int 0, .ref a12, .int 0]))]) (w1 := [(a4, .inr (5, [.ref a1, .ref a13, .ref a14, .int z81, .int (-1), .int z82, .int 1000000, .int 0, .int 0, .int z83, .int 3, .int n2, .int 0])), (a1, .inr (1, [.long 0, .int 1000, .int (-1), .int (-1), .int 0, .ref a15, .ref a16, .ref a17, .ref a18, .ref a19, .ref a20, .long 0, .ref a21])), (a14, .inl (G.2 0, 200, .inl z84)), (a21, .inl (G.2 1, 24, .inr (.inl (fun _ => 0)))), (a19, .inr (6, [.int 8, .int 5, .ref a22, .int 0]))]) hP hD [1, 2, 3, 4, 5] [0] rfl rfl (by decide) (by decide) hk1 hFc hP1 hD1
        generalize H1 = H at hP hS ⊢
        have hP : va_P G.1 vwCl [(a0, .inr (11, [.ref a1, .ref a2, .ref a3, .ref a4, .ref a5, .ref a6, .ref a7, .ref a8, .ref a9, .ref a10, .int 0, .int 0, .int (-1), .ref a11, .int 0, .ref a12, .int 0])), (a4, .inr (5, [.ref a1, .ref a13, .ref a14, .int z81, .int (-1), .int z82, .int 1000000, .int 0, .int 0, .int z83, .int 3, .int n2, .int 0])), (a1, .inr (1, [.long 0, .int 1000, .int (-1), .int (-1), .int 0, .ref a15, .ref a16, .ref a17, .ref a18, .ref a19, .ref a20, .long 0, .ref a21])), (a14, .inl (G.2 0, 200, .inl z84)), (a21, .inl (G.2 1, 24, .inr (.inl (fun _ => 0)))), (a19, .inr (6, [.int 8, .int 5, .ref a22, .int 0]))] H := hP
        have hD : va_D A [(a0, .inr (11, [.ref a1, .ref a2, .ref a3, .ref a4, .ref a5, .ref a6, .ref a7, .ref a8, .ref a9, .ref a10, .int 0, .int 0, .int (-1), .ref a11, .int 0, .ref a12, .int 0])), (a4, .inr (5, [.ref a1, .ref a13, .ref a14, .int z81, .int (-1), .int z82, .int 1000000, .int 0, .int 0, .int z83, .int 3, .int n2, .int 0])), (a1, .inr (1, [.long 0, .int 1000, .int (-1), .int (-1), .int 0, .ref a15, .ref a16, .ref a17, .ref a18, .ref a19, .ref a20, .long 0, .ref a21])), (a14, .inl (G.2 0, 200, .inl z84)), (a21, .inl (G.2 1, 24, .inr (.inl (fun _ => 0)))), (a19, .inr (6, [.int 8, .int 5, .ref a22, .int 0]))] := hD
        refine lv_iload hx hb dX11_point_22 (lv_at hl 4 rfl) ?_
        refine lv_if_lt (tgt := 52) hx hb dX11_point_24 (by decide) (fun c_85 => ?_) (fun c_85 => ?_)
        ·
          have i_85 : n3.toInt < 0 := by have z := g5_lt (a := n3.toInt) (b := 0) (by rfl) (by decide) c_85; omega
          refine lv_iconst (v := (-1)) hx hb dX11_point_52 (by decide) ?_
          have hP := hP.sub (ws' := []) [] rfl
          have hD := hD.sub (ws' := []) [] (by decide) rfl
          exact W.iret (v := (-1)) hx hb hr (fun t ht hW => ⟨⟨(-1), [], rfl, Or.inr (Or.inr (Or.inr (Or.inr (Or.inr (Or.inr (Or.inr (Or.inr (Or.inr (Or.inr (Or.inr (Or.inr (Or.inr (Or.inr (Or.inr (Or.inl (⟨z81, z82, z83, z84, i_22, i_23, i_24, i_25, i_26, i_27, i_35, i_75, i_76, i_77, i_78, i_79, i_80, i_85, rfl, rfl⟩)))))))))))))))), by rw [ht]; exact hP, hD⟩, hS.F ht⟩) hS.2.2 dX11_point_53
        ·
          have i_85 : n3.toInt ≥ 0 := by have z := g5_ltN (a := n3.toInt) (b := 0) (by rfl) (by decide) c_85; omega
          refine lv_iload hx hb dX11_point_27 (lv_at hl 4 rfl) ?_
          refine lv_aload_n hx hb dX11_point_29 rfl (lv_at hl 0 rfl) ?_
          refine va_get (D := G.1) (ci := 11) (v := .ref a4) (C := RX11) (T := TX11) (N := 17) hx hb hts inG_X11 hown hK hP 0 rfl rfl 3 (by decide) (hts _ fl_X11_29) (fun _ h9 => h9) rfl dX11_point_30 ?_
          refine va_get (D := G.1) (ci := 5) (v := .int z81) (C := RX5) (T := TX5) (N := 13) hx hb hts inG_X5 hown hK hP 1 rfl rfl 3 (by decide) (hts _ fl_X11_216) (fun _ h9 => h9) rfl dX11_point_33 ?_
          refine lv_icmp_ge (tgt := 52) hx hb dX11_point_36 (by decide) (fun c_86 => ?_) (fun c_86 => ?_)
          ·
            have i_86 : n3.toInt ≥ z81.toInt := by have z := g5_ge (a := n3.toInt) (b := z81.toInt) (by rfl) (by rfl) c_86; omega
            refine lv_iconst (v := (-1)) hx hb dX11_point_52 (by decide) ?_
            have hP := hP.sub (ws' := []) [] rfl
            have hD := hD.sub (ws' := []) [] (by decide) rfl
            exact W.iret (v := (-1)) hx hb hr (fun t ht hW => ⟨⟨(-1), [], rfl, Or.inr (Or.inr (Or.inr (Or.inr (Or.inr (Or.inr (Or.inr (Or.inr (Or.inr (Or.inr (Or.inr (Or.inr (Or.inr (Or.inr (Or.inr (Or.inr (Or.inl (⟨z81, z82, z83, z84, i_22, i_23, i_24, i_25, i_26, i_27, i_35, i_75, i_76, i_77, i_78, i_79, i_80, i_85, i_86, rfl, rfl⟩))))))))))))))))), by rw [ht]; exact hP, hD⟩, hS.F ht⟩) hS.2.2 dX11_point_53
          ·
            have i_86 : n3.toInt < z81.toInt := by have z := g5_geN (a := n3.toInt) (b := z81.toInt) (by rfl) (by rfl) c_86; omega
            refine lv_aload_n hx hb dX11_point_39 rfl (lv_at hl 0 rfl) ?_
            refine va_get (D := G.1) (ci := 11) (v := .ref a4) (C := RX11) (T := TX11) (N := 17) hx hb hts inG_X11 hown hK hP 0 rfl rfl 3 (by decide) (hts _ fl_X11_29) (fun _ h9 => h9) rfl dX11_point_40 ?_
            refine va_get (D := G.1) (ci := 5) (v := .ref a14) (C := RX5) (T := TX5) (N := 13) hx hb hts inG_X5 hown hK hP 1 rfl rfl 2 (by decide) (hts _ fl_X11_228) (fun _ h9 => h9) rfl dX11_point_43 ?_
            refine lv_iload hx hb dX11_point_46 (lv_at hl 4 rfl) ?_
            have tz_87 := g5_clamp n3
            have t_87 := i_80 (n3.toNatClampNeg) (by omega)
            refine va_iald hx hb hK hP 3 0 rfl rfl (i := n3) (vp_in_iff.mpr ⟨by omega, by omega⟩) dX11_point_48 ?_
            refine lv_goto (tgt := 53) hx hb dX11_point_49 (by decide) ?_
            have hP := hP.sub (ws' := []) [] rfl
            have hD := hD.sub (ws' := []) [] (by decide) rfl
            exact W.iret (v := (z84 n3.toNatClampNeg)) hx hb hr (fun t ht hW => ⟨⟨(z84 n3.toNatClampNeg), [], rfl, Or.inr (Or.inr (Or.inr (Or.inr (Or.inr (Or.inr (Or.inr (Or.inr (Or.inr (Or.inr (Or.inr (Or.inr (Or.inr (Or.inr (Or.inr (Or.inr (Or.inr (⟨z81, z82, z83, z84, i_22, i_23, i_24, i_25, i_26, i_27, i_35, i_75, i_76, i_77, i_78, i_79, i_80, i_85, i_86, (by omega), rfl, rfl⟩))))))))))))))))), by rw [ht]; exact hP, hD⟩, hS.F ht⟩) hS.2.2 dX11_point_53
    ·
      exact absurd c_34 (by decide)
theorem dX5_bodiesFrom_0 : decode cX5_bodiesFrom 0 = .ok (.iconst 0, 1) := by decide +kernel
theorem dX5_bodiesFrom_1 : decode cX5_bodiesFrom 1 = .ok (.istore_n 3, 1) := by decide +kernel
theorem dX5_bodiesFrom_2 : decode cX5_bodiesFrom 2 = .ok (.iconst 0, 1) := by decide +kernel
theorem dX5_bodiesFrom_3 : decode cX5_bodiesFrom 3 = .ok (.istore 4, 2) := by decide +kernel
theorem dX5_bodiesFrom_5 : decode cX5_bodiesFrom 5 = .ok (.iload 4, 2) := by decide +kernel
theorem dX5_bodiesFrom_7 : decode cX5_bodiesFrom 7 = .ok (.iconst 4, 1) := by decide +kernel
theorem dX5_bodiesFrom_8 : decode cX5_bodiesFrom 8 = .ok (.if_icmp .ge 39, 3) := by decide +kernel
theorem dX5_bodiesFrom_11 : decode cX5_bodiesFrom 11 = .ok (.aload_n 0, 1) := by decide +kernel
theorem dX5_bodiesFrom_12 : decode cX5_bodiesFrom 12 = .ok (.iload_n 1, 1) := by decide +kernel
theorem dX5_bodiesFrom_13 : decode cX5_bodiesFrom 13 = .ok (.iload 4, 2) := by decide +kernel
theorem dX5_bodiesFrom_15 : decode cX5_bodiesFrom 15 = .ok (.iload_n 2, 1) := by decide +kernel
theorem dX5_bodiesFrom_16 : decode cX5_bodiesFrom 16 = .ok (.iconst 0, 1) := by decide +kernel
theorem dX5_bodiesFrom_17 : decode cX5_bodiesFrom 17 = .ok (.invokevirtual 91, 3) := by decide +kernel
theorem dX5_bodiesFrom_20 : decode cX5_bodiesFrom 20 = .ok (.iload_n 3, 1) := by decide +kernel
theorem dX5_bodiesFrom_21 : decode cX5_bodiesFrom 21 = .ok (.aload_n 0, 1) := by decide +kernel
theorem dX5_bodiesFrom_22 : decode cX5_bodiesFrom 22 = .ok (.getfield 39, 3) := by decide +kernel
theorem dX5_bodiesFrom_25 : decode cX5_bodiesFrom 25 = .ok (.iconst (-1), 1) := by decide +kernel
theorem dX5_bodiesFrom_26 : decode cX5_bodiesFrom 26 = .ok (.if_icmp .ne 7, 3) := by decide +kernel
theorem dX5_bodiesFrom_29 : decode cX5_bodiesFrom 29 = .ok (.iconst 0, 1) := by decide +kernel
theorem dX5_bodiesFrom_30 : decode cX5_bodiesFrom 30 = .ok (.goto 9, 3) := by decide +kernel
theorem dX5_bodiesFrom_33 : decode cX5_bodiesFrom 33 = .ok (.iconst 1, 1) := by decide +kernel
theorem dX5_bodiesFrom_34 : decode cX5_bodiesFrom 34 = .ok (.aload_n 0, 1) := by decide +kernel
theorem dX5_bodiesFrom_35 : decode cX5_bodiesFrom 35 = .ok (.getfield 39, 3) := by decide +kernel
theorem dX5_bodiesFrom_38 : decode cX5_bodiesFrom 38 = .ok (.ishl, 1) := by decide +kernel
theorem dX5_bodiesFrom_39 : decode cX5_bodiesFrom 39 = .ok (.ior, 1) := by decide +kernel
theorem dX5_bodiesFrom_40 : decode cX5_bodiesFrom 40 = .ok (.istore_n 3, 1) := by decide +kernel
theorem dX5_bodiesFrom_41 : decode cX5_bodiesFrom 41 = .ok (.iinc 4 1, 3) := by decide +kernel
theorem dX5_bodiesFrom_44 : decode cX5_bodiesFrom 44 = .ok (.goto (-39), 3) := by decide +kernel
theorem dX5_bodiesFrom_47 : decode cX5_bodiesFrom 47 = .ok (.iload_n 3, 1) := by decide +kernel
theorem dX5_bodiesFrom_48 : decode cX5_bodiesFrom 48 = .ok (.ireturn, 1) := by decide +kernel
set_option maxHeartbeats 4000000 in
set_option maxRecDepth 100000 in
theorem kX5_bodiesFrom (l : Launch) (G : g5_G) (a0 a1 a2 a3 a4 a5 a6 a7 a8 a9 a10 a11 : Nat) (sz : Nat) (n0 : Int32) (n1 : Int32) (h_n0 : 0 ≤ n0.toInt ∧ n0.toInt ≤ 63) (h_n1 : 0 ≤ n1.toInt ∧ n1.toInt ≤ 23) : Met l yX5_bodiesFrom (wsG yX5_bodiesFrom cX5_bodiesFrom 5 (some .int)) ({ frames := 3, cells := 0, slots := 0, locals := 70 }) (va_Pc [.ref a0, .int n0, .int n1] (g5_P G [(a0, .inr (5, [.ref a1, .ref a2, .ref a3, .int 0, .int 0, .int 0, .int 0, .int 0, .int 0, .int 0, .int 0, .int 0, .int 0])), (a1, .inr (1, [.long 0, .int 1000, .int (-1), .int (-1), .int 0, .ref a4, .ref a5, .ref a6, .ref a7, .ref a8, .ref a9, .long 0, .ref a10])), (a3, .inl (G.2 0, 200, .inl (fun _ => 0))), (a10, .inl (G.2 1, 24, .inr (.inl (fun _ => 0)))), (a8, .inr (6, [.int 8, .int 5, .ref a11, .int 0]))] sz)) (va_Qi (fun (r : Int32) (u : va_W) => (∃ (z8 : Int32) (z9 : Int32) (z10 : Int32) (z11 : Nat → Int32) (z20 : Int32) (z21 : Int32) (z22 : Int32) (z23 : Nat → Int32) (z32 : Int32) (z33 : Int32) (z34 : Int32) (z35 : Nat → Int32) (z44 : Int32) (z45 : Int32) (z46 : Int32) (z47 : Nat → Int32), (z8.toInt = n0.toInt / 8) ∧ (0 ≤ z8.toInt ∧ z8.toInt ≤ 7) ∧ ((z8.toInt = 0 → z9.toInt = -1) ∧ (0 < z8.toInt → z9.toInt = n1.toInt)) ∧ (-1 ≤ z9.toInt ∧ z9.toInt ≤ 23) ∧ (0 ≤ z10.toInt ∧ z10.toInt ≤ 63) ∧ (∀ j : Nat, (j : Int) < z8.toInt → (z11 j).toInt = n1.toInt * 64 + (n0.toInt - 8 * ((j : Int) + 1))) ∧ (z20.toInt = 7 - n0.toInt % 8) ∧ (0 ≤ z20.toInt ∧ z20.toInt ≤ 7) ∧ ((z20.toInt = 0 → z21.toInt = -1) ∧ (0 < z20.toInt → z21.toInt = n1.toInt)) ∧ (-1 ≤ z21.toInt ∧ z21.toInt ≤ 23) ∧ (0 ≤ z22.toInt ∧ z22.toInt ≤ 63) ∧ (∀ j : Nat, (j : Int) < z20.toInt → (z23 j).toInt = n1.toInt * 64 + (n0.toInt + ((j : Int) + 1))) ∧ (z32.toInt = 7 - n0.toInt / 8) ∧ (0 ≤ z32.toInt ∧ z32.toInt ≤ 7) ∧ ((z32.toInt = 0 → z33.toInt = -1) ∧ (0 < z32.toInt → z33.toInt = n1.toInt)) ∧ (-1 ≤ z33.toInt ∧ z33.toInt ≤ 23) ∧ (0 ≤ z34.toInt ∧ z34.toInt ≤ 63) ∧ (∀ j : Nat, (j : Int) < z32.toInt → (z35 j).toInt = n1.toInt * 64 + (n0.toInt + 8 * ((j : Int) + 1))) ∧ (z44.toInt = n0.toInt % 8) ∧ (0 ≤ z44.toInt ∧ z44.toInt ≤ 7) ∧ ((z44.toInt = 0 → z45.toInt = -1) ∧ (0 < z44.toInt → z45.toInt = n1.toInt)) ∧ (-1 ≤ z45.toInt ∧ z45.toInt ≤ 23) ∧ (0 ≤ z46.toInt ∧ z46.toInt ≤ 63) ∧ (∀ j : Nat, (j : Int) < z44.toInt → (z47 j).toInt = n1.toInt * 64 + (n0.toInt - ((j : Int) + 1))) ∧ (r = 0) ∧ (u = [(a0, .inr (5, [.ref a1, .ref a2, .ref a3, .int z44, .int (-1), .int z45, .int 1000000, .int 0, .int 0, .int z46, .int 3, .int n1, .int 0])), (a1, .inr (1, [.long 0, .int 1000, .int (-1), .int (-1), .int 0, .ref a4, .ref a5, .ref a6, .ref a7, .ref a8, .ref a9, .long 0, .ref a10])), (a3, .inl (G.2 0, 200, .inl z47)), (a10, .inl (G.2 1, 24, .inr (.inl (fun _ => 0)))), (a8, .inr (6, [.int 8, .int 5, .ref a11, .int 0]))]))) (g5_B G (va_A [(a0, .inr (5, [.ref a1, .ref a2, .ref a3, .int 0, .int 0, .int 0, .int 0, .int 0, .int 0, .int 0, .int 0, .int 0, .int 0])), (a1, .inr (1, [.long 0, .int 1000, .int (-1), .int (-1), .int 0, .ref a4, .ref a5, .ref a6, .ref a7, .ref a8, .ref a9, .long 0, .ref a10])), (a3, .inl (G.2 0, 200, .inl (fun _ => 0))), (a10, .inl (G.2 1, 24, .inr (.inl (fun _ => 0)))), (a8, .inr (6, [.int 8, .int 5, .ref a11, .int 0]))] sz)) (va_A [(a0, .inr (5, [.ref a1, .ref a2, .ref a3, .int 0, .int 0, .int 0, .int 0, .int 0, .int 0, .int 0, .int 0, .int 0, .int 0])), (a1, .inr (1, [.long 0, .int 1000, .int (-1), .int (-1), .int 0, .ref a4, .ref a5, .ref a6, .ref a7, .ref a8, .ref a9, .long 0, .ref a10])), (a3, .inl (G.2 0, 200, .inl (fun _ => 0))), (a10, .inl (G.2 1, 24, .inr (.inl (fun _ => 0)))), (a8, .inr (6, [.int 8, .int 5, .ref a11, .int 0]))] sz)) 0 0 (va_A [(a0, .inr (5, [.ref a1, .ref a2, .ref a3, .int 0, .int 0, .int 0, .int 0, .int 0, .int 0, .int 0, .int 0, .int 0, .int 0])), (a1, .inr (1, [.long 0, .int 1000, .int (-1), .int (-1), .int 0, .ref a4, .ref a5, .ref a6, .ref a7, .ref a8, .ref a9, .long 0, .ref a10])), (a3, .inl (G.2 0, 200, .inl (fun _ => 0))), (a10, .inl (G.2 1, 24, .inr (.inl (fun _ => 0)))), (a8, .inr (6, [.int 8, .int 5, .ref a11, .int 0]))] sz) := by
  refine Met.ofW (cc := cX5_bodiesFrom) (maxL := 5) (ret := (some .int)) (by decide) rfl ?_
  intro p e s m args below meth c s₁ B hml hv
  obtain ⟨rfl, hsz, hP, hK, hD0, hN, hT⟩ := hv
  have hx := B.exec
  have hb := B.bytes
  have hr := B.returns
  have hts : ∀ w ∈ tblG, w.before _ s = true := fun w h => atoms_spec (ws := (wsG yX5_bodiesFrom cX5_bodiesFrom 5 (some .int))) B.pre w (List.mem_cons_of_mem _ h)
  have hown : s.vm.findClass RX5 = some m.cls := findClass_of_methodNamed B.named
  have hlocks := B.notSynchronized
  subst hsz
  have hD := hD0.self (sz := s.heap.size)
  generalize hAe : va_A [(a0, .inr (5, [.ref a1, .ref a2, .ref a3, .int 0, .int 0, .int 0, .int 0, .int 0, .int 0, .int 0, .int 0, .int 0, .int 0])), (a1, .inr (1, [.long 0, .int 1000, .int (-1), .int (-1), .int 0, .ref a4, .ref a5, .ref a6, .ref a7, .ref a8, .ref a9, .long 0, .ref a10])), (a3, .inl (G.2 0, 200, .inl (fun _ => 0))), (a10, .inl (G.2 1, 24, .inr (.inl (fun _ => 0)))), (a8, .inr (6, [.int 8, .int 5, .ref a11, .int 0]))] s.heap.size = A at hD hT ⊢
  have hA : ∀ q : Nat, s.heap.size ≤ q → A q := fun q h => by rw [← hAe]; exact Or.inr h
  have hS : va_S A s.heap s.heap [] := va_S.rf
  have hP : va_P G.1 vwCl [(a0, .inr (5, [.ref a1, .ref a2, .ref a3, .int 0, .int 0, .int 0, .int 0, .int 0, .int 0, .int 0, .int 0, .int 0, .int 0])), (a1, .inr (1, [.long 0, .int 1000, .int (-1), .int (-1), .int 0, .ref a4, .ref a5, .ref a6, .ref a7, .ref a8, .ref a9, .long 0, .ref a10])), (a3, .inl (G.2 0, 200, .inl (fun _ => 0))), (a10, .inl (G.2 1, 24, .inr (.inl (fun _ => 0)))), (a8, .inr (6, [.int 8, .int 5, .ref a11, .int 0]))] s.heap := hP
  have hl := lv_entry ([.ref a0, .int n0, .int n1]) (n := 5) (Nat.le_of_ble_eq_true rfl)
  rw [lg_entry_eq]
  generalize (lg_sl ([.ref a0, .int n0, .int n1]) ++ List.replicate (5 - (lg_sl ([.ref a0, .int n0, .int n1])).length) Slot.unset).toArray = ls at hl ⊢
  have hl : lv_has ls 5 [(0, .ref a0), (1, .int n0), (2, .int n1)] := hl
  refine lv_iconst (v := 0) hx hb dX5_bodiesFrom_0 (by decide) ?_
  refine lv_istore_n (lv' := [(3, .int 0), (0, .ref a0), (1, .int n0), (2, .int n1)]) hx hb dX5_bodiesFrom_1 rfl hl (by decide) rfl (fun ls hl => ?_)
  refine lv_iconst (v := 0) hx hb dX5_bodiesFrom_2 (by decide) ?_
  refine lv_istore (lv' := [(4, .int 0), (3, .int 0), (0, .ref a0), (1, .int n0), (2, .int n1)]) hx hb dX5_bodiesFrom_3 hl (by decide) rfl (fun ls hl => ?_)
  refine lv_iload hx hb dX5_bodiesFrom_5 (lv_at hl 0 rfl) ?_
  refine lv_iconst (v := 4) hx hb dX5_bodiesFrom_7 (by decide) ?_
  refine lv_icmp_ge (tgt := 47) hx hb dX5_bodiesFrom_8 (by decide) (fun c_1 => ?_) (fun c_1 => ?_)
  ·
    exact absurd c_1 (by decide)
  ·
    refine lv_aload_n hx hb dX5_bodiesFrom_11 rfl (lv_at hl 2 rfl) ?_
    refine lv_iload_n hx hb dX5_bodiesFrom_12 rfl (lv_at hl 3 rfl) ?_
    refine lv_iload hx hb dX5_bodiesFrom_13 (lv_at hl 0 rfl) ?_
    refine lv_iload_n hx hb dX5_bodiesFrom_15 rfl (lv_at hl 4 rfl) ?_
    refine lv_iconst (v := 0) hx hb dX5_bodiesFrom_16 (by decide) ?_
    have hPc := hP.sub (ws' := [(a0, .inr (5, [.ref a1, .ref a2, .ref a3, .int 0, .int 0, .int 0, .int 0, .int 0, .int 0, .int 0, .int 0, .int 0, .int 0])), (a1, .inr (1, [.long 0, .int 1000, .int (-1), .int (-1), .int 0, .ref a4, .ref a5, .ref a6, .ref a7, .ref a8, .ref a9, .long 0, .ref a10])), (a3, .inl (G.2 0, 200, .inl (fun _ => 0))), (a10, .inl (G.2 1, 24, .inr (.inl (fun _ => 0)))), (a8, .inr (6, [.int 8, .int 5, .ref a11, .int 0]))]) [0, 1, 2, 3, 4] rfl
    have hDc := hD.sub (ws' := [(a0, .inr (5, [.ref a1, .ref a2, .ref a3, .int 0, .int 0, .int 0, .int 0, .int 0, .int 0, .int 0, .int 0, .int 0, .int 0])), (a1, .inr (1, [.long 0, .int 1000, .int (-1), .int (-1), .int 0, .ref a4, .ref a5, .ref a6, .ref a7, .ref a8, .ref a9, .long 0, .ref a10])), (a3, .inl (G.2 0, 200, .inl (fun _ => 0))), (a10, .inl (G.2 1, 24, .inr (.inl (fun _ => 0)))), (a8, .inr (6, [.int 8, .int 5, .ref a11, .int 0]))]) [0, 1, 2, 3, 4] (by decide) rfl
    have hFc := va_free (wc := [(a0, .inr (5, [.ref a1, .ref a2, .ref a3, .int 0, .int 0, .int 0, .int 0, .int 0, .int 0, .int 0, .int 0, .int 0, .int 0])), (a1, .inr (1, [.long 0, .int 1000, .int (-1), .int (-1), .int 0, .ref a4, .ref a5, .ref a6, .ref a7, .ref a8, .ref a9, .long 0, .ref a10])), (a3, .inl (G.2 0, 200, .inl (fun _ => 0))), (a10, .inl (G.2 1, 24, .inr (.inl (fun _ => 0)))), (a8, .inr (6, [.int 8, .int 5, .ref a11, .int 0]))]) hD hS hA [0, 1, 2, 3, 4] rfl
    refine va_callv (va_runV (As := [.int n0, .int 0, .int n1, .int 0]) (rest := []) ⟨hx, hb, hml, hown, hts⟩ (k_run0 l G a0 a1 a3 a10 a8 a2 a4 a5 a6 a7 a9 a11 s.heap.size n0 n1 0 0 0 0 0 0 0 0 0 (fun _ => 0) ⟨by omega, by omega⟩ ⟨by omega, by omega⟩) (cwV 4 hts gV_X5_91 rfl rfl rfl hv_X5_run ⟨Nat.le_of_ble_eq_true rfl, Nat.le_of_ble_eq_true rfl⟩) (g5_preV hPc hK hDc hN hT hS hFc (ci := 5) (q0 := 0) rfl rfl) rfl rfl hl.1 rfl (lv_room (Nat.le_of_ble_eq_true rfl)) dX5_bodiesFrom_17 ⟨Nat.le_of_ble_eq_true rfl, Nat.le_of_ble_eq_true rfl⟩) hS (fun q _ h => hFc q h) hFc (fun u t H1 locs ht hvm hw hB hz1 hk1 hS => ?_)
    obtain ⟨hP1, hD1⟩ := hB
    rw [ht] at hP1
    obtain ⟨z8, z9, z10, z11, i_2, i_3, i_4, i_5, i_6, i_7, rfl⟩ := hw
    have i_2 : z8.toInt = n0.toInt / 8 := i_2
    have i_3 : 0 ≤ z8.toInt ∧ z8.toInt ≤ 7 := i_3
    have i_4 : (z8.toInt = 0 → z9.toInt = -1) ∧ (0 < z8.toInt → z9.toInt = n1.toInt) := i_4
    have i_5 : -1 ≤ z9.toInt ∧ z9.toInt ≤ 23 := i_5
    have i_6 : 0 ≤ z10.toInt ∧ z10.toInt ≤ 63 := i_6
    have i_7 : ∀ j : Nat, (j : Int) < z8.toInt → (z11 j).toInt = n1.toInt * 64 + (n0.toInt - 8 * ((j : Int) + 1)) := i_7
    obtain ⟨hP, hD⟩ := va_join (wr := []) (w1 := [(a0, .inr (5, [.ref a1, .ref a2, .ref a3, .int z8, .int (-1), .int z9, .int 1000000, .int 0, .int 0, .int z10, .int 0, .int n1, .int 0])), (a1, .inr (1, [.long 0, .int 1000, .int (-1), .int (-1), .int 0, .ref a4, .ref a5, .ref a6, .ref a7, .ref a8, .ref a9, .long 0, .ref a10])), (a3, .inl (G.2 0, 200, .inl z11)), (a10, .inl (G.2 1, 24, .inr (.inl (fun _ => 0)))), (a8, .inr (6, [.int 8, .int 5, .ref a11, .int 0]))]) hP hD [0, 1, 2, 3, 4] [] rfl rfl (by decide) (by decide) hk1 hFc hP1 hD1
    generalize H1 = H at hP hS ⊢
    have hP : va_P G.1 vwCl [(a0, .inr (5, [.ref a1, .ref a2, .ref a3, .int z8, .int (-1), .int z9, .int 1000000, .int 0, .int 0, .int z10, .int 0, .int n1, .int 0])), (a1, .inr (1, [.long 0, .int 1000, .int (-1), .int (-1), .int 0, .ref a4, .ref a5, .ref a6, .ref a7, .ref a8, .ref a9, .long 0, .ref a10])), (a3, .inl (G.2 0, 200, .inl z11)), (a10, .inl (G.2 1, 24, .inr (.inl (fun _ => 0)))), (a8, .inr (6, [.int 8, .int 5, .ref a11, .int 0]))] H := hP
    have hD : va_D A [(a0, .inr (5, [.ref a1, .ref a2, .ref a3, .int z8, .int (-1), .int z9, .int 1000000, .int 0, .int 0, .int z10, .int 0, .int n1, .int 0])), (a1, .inr (1, [.long 0, .int 1000, .int (-1), .int (-1), .int 0, .ref a4, .ref a5, .ref a6, .ref a7, .ref a8, .ref a9, .long 0, .ref a10])), (a3, .inl (G.2 0, 200, .inl z11)), (a10, .inl (G.2 1, 24, .inr (.inl (fun _ => 0)))), (a8, .inr (6, [.int 8, .int 5, .ref a11, .int 0]))] := hD
    refine lv_iload_n hx hb dX5_bodiesFrom_20 rfl (lv_at hl 1 rfl) ?_
    refine lv_aload_n hx hb dX5_bodiesFrom_21 rfl (lv_at hl 2 rfl) ?_
    refine va_get (D := G.1) (ci := 5) (v := .int (-1)) (C := RX5) (T := TX5) (N := 13) hx hb hts inG_X5 hown hK hP 0 rfl rfl 4 (by decide) (hts _ fl_X5_39) (fun _ h9 => h9) rfl dX5_bodiesFrom_22 ?_
    refine lv_iconst (v := (-1)) hx hb dX5_bodiesFrom_25 (by decide) ?_
    refine lv_icmp_ne (tgt := 33) hx hb dX5_bodiesFrom_26 (by decide) (fun c_12 => ?_) (fun c_12 => ?_)
    ·
      exact absurd c_12 (by decide)
    ·
      refine lv_iconst (v := 0) hx hb dX5_bodiesFrom_29 (by decide) ?_
      refine lv_goto (tgt := 39) hx hb dX5_bodiesFrom_30 (by decide) ?_
      refine lv_ior hx hb dX5_bodiesFrom_39 ?_
      refine g5_ti (v := 0) (by decide) ?_
      refine lv_istore_n (lv' := [(3, .int 0), (4, .int 0), (0, .ref a0), (1, .int n0), (2, .int n1)]) hx hb dX5_bodiesFrom_40 rfl hl (by decide) rfl (fun ls hl => ?_)
      refine lv_iinc (v := 1) (lv' := [(4, .int 1), (3, .int 0), (0, .ref a0), (1, .int n0), (2, .int n1)]) hx hb dX5_bodiesFrom_41 hl (k := 1) rfl (by decide) (by decide) rfl (fun ls hl => ?_)
      refine lv_goto (tgt := 5) hx hb dX5_bodiesFrom_44 (by decide) ?_
      refine lv_iload hx hb dX5_bodiesFrom_5 (lv_at hl 0 rfl) ?_
      refine lv_iconst (v := 4) hx hb dX5_bodiesFrom_7 (by decide) ?_
      refine lv_icmp_ge (tgt := 47) hx hb dX5_bodiesFrom_8 (by decide) (fun c_13 => ?_) (fun c_13 => ?_)
      ·
        exact absurd c_13 (by decide)
      ·
        refine lv_aload_n hx hb dX5_bodiesFrom_11 rfl (lv_at hl 2 rfl) ?_
        refine lv_iload_n hx hb dX5_bodiesFrom_12 rfl (lv_at hl 3 rfl) ?_
        refine lv_iload hx hb dX5_bodiesFrom_13 (lv_at hl 0 rfl) ?_
        refine lv_iload_n hx hb dX5_bodiesFrom_15 rfl (lv_at hl 4 rfl) ?_
        refine lv_iconst (v := 0) hx hb dX5_bodiesFrom_16 (by decide) ?_
        have hPc := hP.sub (ws' := [(a0, .inr (5, [.ref a1, .ref a2, .ref a3, .int z8, .int (-1), .int z9, .int 1000000, .int 0, .int 0, .int z10, .int 0, .int n1, .int 0])), (a1, .inr (1, [.long 0, .int 1000, .int (-1), .int (-1), .int 0, .ref a4, .ref a5, .ref a6, .ref a7, .ref a8, .ref a9, .long 0, .ref a10])), (a3, .inl (G.2 0, 200, .inl z11)), (a10, .inl (G.2 1, 24, .inr (.inl (fun _ => 0)))), (a8, .inr (6, [.int 8, .int 5, .ref a11, .int 0]))]) [0, 1, 2, 3, 4] rfl
        have hDc := hD.sub (ws' := [(a0, .inr (5, [.ref a1, .ref a2, .ref a3, .int z8, .int (-1), .int z9, .int 1000000, .int 0, .int 0, .int z10, .int 0, .int n1, .int 0])), (a1, .inr (1, [.long 0, .int 1000, .int (-1), .int (-1), .int 0, .ref a4, .ref a5, .ref a6, .ref a7, .ref a8, .ref a9, .long 0, .ref a10])), (a3, .inl (G.2 0, 200, .inl z11)), (a10, .inl (G.2 1, 24, .inr (.inl (fun _ => 0)))), (a8, .inr (6, [.int 8, .int 5, .ref a11, .int 0]))]) [0, 1, 2, 3, 4] (by decide) rfl
        have hFc := va_free (wc := [(a0, .inr (5, [.ref a1, .ref a2, .ref a3, .int z8, .int (-1), .int z9, .int 1000000, .int 0, .int 0, .int z10, .int 0, .int n1, .int 0])), (a1, .inr (1, [.long 0, .int 1000, .int (-1), .int (-1), .int 0, .ref a4, .ref a5, .ref a6, .ref a7, .ref a8, .ref a9, .long 0, .ref a10])), (a3, .inl (G.2 0, 200, .inl z11)), (a10, .inl (G.2 1, 24, .inr (.inl (fun _ => 0)))), (a8, .inr (6, [.int 8, .int 5, .ref a11, .int 0]))]) hD hS hA [0, 1, 2, 3, 4] rfl
        refine va_callv (va_runV (As := [.int n0, .int 1, .int n1, .int 0]) (rest := []) ⟨hx, hb, hml, hown, hts⟩ (k_run1 l G a0 a1 a3 a10 a8 a2 a4 a5 a6 a7 a9 a11 H.size n0 n1 z8 (-1) z9 1000000 0 0 z10 0 n1 z11 ⟨by omega, by omega⟩ ⟨by omega, by omega⟩) (cwV 4 hts gV_X5_91 rfl rfl rfl hv_X5_run ⟨Nat.le_of_ble_eq_true rfl, Nat.le_of_ble_eq_true rfl⟩) (g5_preV hPc hK hDc hN hT hS hFc (ci := 5) (q0 := 0) rfl rfl) rfl rfl hl.1 rfl (lv_room (Nat.le_of_ble_eq_true rfl)) dX5_bodiesFrom_17 ⟨Nat.le_of_ble_eq_true rfl, Nat.le_of_ble_eq_true rfl⟩) hS (fun q _ h => hFc q h) hFc (fun u t H1 locs ht hvm hw hB hz1 hk1 hS => ?_)
        obtain ⟨hP1, hD1⟩ := hB
        rw [ht] at hP1
        obtain ⟨z20, z21, z22, z23, i_14, i_15, i_16, i_17, i_18, i_19, rfl⟩ := hw
        have i_14 : z20.toInt = 7 - n0.toInt % 8 := i_14
        have i_15 : 0 ≤ z20.toInt ∧ z20.toInt ≤ 7 := i_15
        have i_16 : (z20.toInt = 0 → z21.toInt = -1) ∧ (0 < z20.toInt → z21.toInt = n1.toInt) := i_16
        have i_17 : -1 ≤ z21.toInt ∧ z21.toInt ≤ 23 := i_17
        have i_18 : 0 ≤ z22.toInt ∧ z22.toInt ≤ 63 := i_18
        have i_19 : ∀ j : Nat, (j : Int) < z20.toInt → (z23 j).toInt = n1.toInt * 64 + (n0.toInt + ((j : Int) + 1)) := i_19
        obtain ⟨hP, hD⟩ := va_join (wr := []) (w1 := [(a0, .inr (5, [.ref a1, .ref a2, .ref a3, .int z20, .int (-1), .int z21, .int 1000000, .int 0, .int 0, .int z22, .int 1, .int n1, .int 0])), (a1, .inr (1, [.long 0, .int 1000, .int (-1), .int (-1), .int 0, .ref a4, .ref a5, .ref a6, .ref a7, .ref a8, .ref a9, .long 0, .ref a10])), (a3, .inl (G.2 0, 200, .inl z23)), (a10, .inl (G.2 1, 24, .inr (.inl (fun _ => 0)))), (a8, .inr (6, [.int 8, .int 5, .ref a11, .int 0]))]) hP hD [0, 1, 2, 3, 4] [] rfl rfl (by decide) (by decide) hk1 hFc hP1 hD1
        generalize H1 = H at hP hS ⊢
        have hP : va_P G.1 vwCl [(a0, .inr (5, [.ref a1, .ref a2, .ref a3, .int z20, .int (-1), .int z21, .int 1000000, .int 0, .int 0, .int z22, .int 1, .int n1, .int 0])), (a1, .inr (1, [.long 0, .int 1000, .int (-1), .int (-1), .int 0, .ref a4, .ref a5, .ref a6, .ref a7, .ref a8, .ref a9, .long 0, .ref a10])), (a3, .inl (G.2 0, 200, .inl z23)), (a10, .inl (G.2 1, 24, .inr (.inl (fun _ => 0)))), (a8, .inr (6, [.int 8, .int 5, .ref a11, .int 0]))] H := hP
        have hD : va_D A [(a0, .inr (5, [.ref a1, .ref a2, .ref a3, .int z20, .int (-1), .int z21, .int 1000000, .int 0, .int 0, .int z22, .int 1, .int n1, .int 0])), (a1, .inr (1, [.long 0, .int 1000, .int (-1), .int (-1), .int 0, .ref a4, .ref a5, .ref a6, .ref a7, .ref a8, .ref a9, .long 0, .ref a10])), (a3, .inl (G.2 0, 200, .inl z23)), (a10, .inl (G.2 1, 24, .inr (.inl (fun _ => 0)))), (a8, .inr (6, [.int 8, .int 5, .ref a11, .int 0]))] := hD
        refine lv_iload_n hx hb dX5_bodiesFrom_20 rfl (lv_at hl 1 rfl) ?_
        refine lv_aload_n hx hb dX5_bodiesFrom_21 rfl (lv_at hl 2 rfl) ?_
        refine va_get (D := G.1) (ci := 5) (v := .int (-1)) (C := RX5) (T := TX5) (N := 13) hx hb hts inG_X5 hown hK hP 0 rfl rfl 4 (by decide) (hts _ fl_X5_39) (fun _ h9 => h9) rfl dX5_bodiesFrom_22 ?_
        refine lv_iconst (v := (-1)) hx hb dX5_bodiesFrom_25 (by decide) ?_
        refine lv_icmp_ne (tgt := 33) hx hb dX5_bodiesFrom_26 (by decide) (fun c_24 => ?_) (fun c_24 => ?_)
        ·
          exact absurd c_24 (by decide)
        ·
          refine lv_iconst (v := 0) hx hb dX5_bodiesFrom_29 (by decide) ?_
          refine lv_goto (tgt := 39) hx hb dX5_bodiesFrom_30 (by decide) ?_
          refine lv_ior hx hb dX5_bodiesFrom_39 ?_
          refine g5_ti (v := 0) (by decide) ?_
          refine lv_istore_n (lv' := [(3, .int 0), (4, .int 1), (0, .ref a0), (1, .int n0), (2, .int n1)]) hx hb dX5_bodiesFrom_40 rfl hl (by decide) rfl (fun ls hl => ?_)
          refine lv_iinc (v := 2) (lv' := [(4, .int 2), (3, .int 0), (0, .ref a0), (1, .int n0), (2, .int n1)]) hx hb dX5_bodiesFrom_41 hl (k := 1) rfl (by decide) (by decide) rfl (fun ls hl => ?_)
          refine lv_goto (tgt := 5) hx hb dX5_bodiesFrom_44 (by decide) ?_
          refine lv_iload hx hb dX5_bodiesFrom_5 (lv_at hl 0 rfl) ?_
          refine lv_iconst (v := 4) hx hb dX5_bodiesFrom_7 (by decide) ?_
          refine lv_icmp_ge (tgt := 47) hx hb dX5_bodiesFrom_8 (by decide) (fun c_25 => ?_) (fun c_25 => ?_)
          ·
            exact absurd c_25 (by decide)
          ·
            refine lv_aload_n hx hb dX5_bodiesFrom_11 rfl (lv_at hl 2 rfl) ?_
            refine lv_iload_n hx hb dX5_bodiesFrom_12 rfl (lv_at hl 3 rfl) ?_
            refine lv_iload hx hb dX5_bodiesFrom_13 (lv_at hl 0 rfl) ?_
            refine lv_iload_n hx hb dX5_bodiesFrom_15 rfl (lv_at hl 4 rfl) ?_
            refine lv_iconst (v := 0) hx hb dX5_bodiesFrom_16 (by decide) ?_
            have hPc := hP.sub (ws' := [(a0, .inr (5, [.ref a1, .ref a2, .ref a3, .int z20, .int (-1), .int z21, .int 1000000, .int 0, .int 0, .int z22, .int 1, .int n1, .int 0])), (a1, .inr (1, [.long 0, .int 1000, .int (-1), .int (-1), .int 0, .ref a4, .ref a5, .ref a6, .ref a7, .ref a8, .ref a9, .long 0, .ref a10])), (a3, .inl (G.2 0, 200, .inl z23)), (a10, .inl (G.2 1, 24, .inr (.inl (fun _ => 0)))), (a8, .inr (6, [.int 8, .int 5, .ref a11, .int 0]))]) [0, 1, 2, 3, 4] rfl
            have hDc := hD.sub (ws' := [(a0, .inr (5, [.ref a1, .ref a2, .ref a3, .int z20, .int (-1), .int z21, .int 1000000, .int 0, .int 0, .int z22, .int 1, .int n1, .int 0])), (a1, .inr (1, [.long 0, .int 1000, .int (-1), .int (-1), .int 0, .ref a4, .ref a5, .ref a6, .ref a7, .ref a8, .ref a9, .long 0, .ref a10])), (a3, .inl (G.2 0, 200, .inl z23)), (a10, .inl (G.2 1, 24, .inr (.inl (fun _ => 0)))), (a8, .inr (6, [.int 8, .int 5, .ref a11, .int 0]))]) [0, 1, 2, 3, 4] (by decide) rfl
            have hFc := va_free (wc := [(a0, .inr (5, [.ref a1, .ref a2, .ref a3, .int z20, .int (-1), .int z21, .int 1000000, .int 0, .int 0, .int z22, .int 1, .int n1, .int 0])), (a1, .inr (1, [.long 0, .int 1000, .int (-1), .int (-1), .int 0, .ref a4, .ref a5, .ref a6, .ref a7, .ref a8, .ref a9, .long 0, .ref a10])), (a3, .inl (G.2 0, 200, .inl z23)), (a10, .inl (G.2 1, 24, .inr (.inl (fun _ => 0)))), (a8, .inr (6, [.int 8, .int 5, .ref a11, .int 0]))]) hD hS hA [0, 1, 2, 3, 4] rfl
            refine va_callv (va_runV (As := [.int n0, .int 2, .int n1, .int 0]) (rest := []) ⟨hx, hb, hml, hown, hts⟩ (k_run2 l G a0 a1 a3 a10 a8 a2 a4 a5 a6 a7 a9 a11 H.size n0 n1 z20 (-1) z21 1000000 0 0 z22 1 n1 z23 ⟨by omega, by omega⟩ ⟨by omega, by omega⟩) (cwV 4 hts gV_X5_91 rfl rfl rfl hv_X5_run ⟨Nat.le_of_ble_eq_true rfl, Nat.le_of_ble_eq_true rfl⟩) (g5_preV hPc hK hDc hN hT hS hFc (ci := 5) (q0 := 0) rfl rfl) rfl rfl hl.1 rfl (lv_room (Nat.le_of_ble_eq_true rfl)) dX5_bodiesFrom_17 ⟨Nat.le_of_ble_eq_true rfl, Nat.le_of_ble_eq_true rfl⟩) hS (fun q _ h => hFc q h) hFc (fun u t H1 locs ht hvm hw hB hz1 hk1 hS => ?_)
            obtain ⟨hP1, hD1⟩ := hB
            rw [ht] at hP1
            obtain ⟨z32, z33, z34, z35, i_26, i_27, i_28, i_29, i_30, i_31, rfl⟩ := hw
            have i_26 : z32.toInt = 7 - n0.toInt / 8 := i_26
            have i_27 : 0 ≤ z32.toInt ∧ z32.toInt ≤ 7 := i_27
            have i_28 : (z32.toInt = 0 → z33.toInt = -1) ∧ (0 < z32.toInt → z33.toInt = n1.toInt) := i_28
            have i_29 : -1 ≤ z33.toInt ∧ z33.toInt ≤ 23 := i_29
            have i_30 : 0 ≤ z34.toInt ∧ z34.toInt ≤ 63 := i_30
            have i_31 : ∀ j : Nat, (j : Int) < z32.toInt → (z35 j).toInt = n1.toInt * 64 + (n0.toInt + 8 * ((j : Int) + 1)) := i_31
            obtain ⟨hP, hD⟩ := va_join (wr := []) (w1 := [(a0, .inr (5, [.ref a1, .ref a2, .ref a3, .int z32, .int (-1), .int z33, .int 1000000, .int 0, .int 0, .int z34, .int 2, .int n1, .int 0])), (a1, .inr (1, [.long 0, .int 1000, .int (-1), .int (-1), .int 0, .ref a4, .ref a5, .ref a6, .ref a7, .ref a8, .ref a9, .long 0, .ref a10])), (a3, .inl (G.2 0, 200, .inl z35)), (a10, .inl (G.2 1, 24, .inr (.inl (fun _ => 0)))), (a8, .inr (6, [.int 8, .int 5, .ref a11, .int 0]))]) hP hD [0, 1, 2, 3, 4] [] rfl rfl (by decide) (by decide) hk1 hFc hP1 hD1
            generalize H1 = H at hP hS ⊢
            have hP : va_P G.1 vwCl [(a0, .inr (5, [.ref a1, .ref a2, .ref a3, .int z32, .int (-1), .int z33, .int 1000000, .int 0, .int 0, .int z34, .int 2, .int n1, .int 0])), (a1, .inr (1, [.long 0, .int 1000, .int (-1), .int (-1), .int 0, .ref a4, .ref a5, .ref a6, .ref a7, .ref a8, .ref a9, .long 0, .ref a10])), (a3, .inl (G.2 0, 200, .inl z35)), (a10, .inl (G.2 1, 24, .inr (.inl (fun _ => 0)))), (a8, .inr (6, [.int 8, .int 5, .ref a11, .int 0]))] H := hP
            have hD : va_D A [(a0, .inr (5, [.ref a1, .ref a2, .ref a3, .int z32, .int (-1), .int z33, .int 1000000, .int 0, .int 0, .int z34, .int 2, .int n1, .int 0])), (a1, .inr (1, [.long 0, .int 1000, .int (-1), .int (-1), .int 0, .ref a4, .ref a5, .ref a6, .ref a7, .ref a8, .ref a9, .long 0, .ref a10])), (a3, .inl (G.2 0, 200, .inl z35)), (a10, .inl (G.2 1, 24, .inr (.inl (fun _ => 0)))), (a8, .inr (6, [.int 8, .int 5, .ref a11, .int 0]))] := hD
            refine lv_iload_n hx hb dX5_bodiesFrom_20 rfl (lv_at hl 1 rfl) ?_
            refine lv_aload_n hx hb dX5_bodiesFrom_21 rfl (lv_at hl 2 rfl) ?_
            refine va_get (D := G.1) (ci := 5) (v := .int (-1)) (C := RX5) (T := TX5) (N := 13) hx hb hts inG_X5 hown hK hP 0 rfl rfl 4 (by decide) (hts _ fl_X5_39) (fun _ h9 => h9) rfl dX5_bodiesFrom_22 ?_
            refine lv_iconst (v := (-1)) hx hb dX5_bodiesFrom_25 (by decide) ?_
            refine lv_icmp_ne (tgt := 33) hx hb dX5_bodiesFrom_26 (by decide) (fun c_36 => ?_) (fun c_36 => ?_)
            ·
              exact absurd c_36 (by decide)
            ·
              refine lv_iconst (v := 0) hx hb dX5_bodiesFrom_29 (by decide) ?_
              refine lv_goto (tgt := 39) hx hb dX5_bodiesFrom_30 (by decide) ?_
              refine lv_ior hx hb dX5_bodiesFrom_39 ?_
              refine g5_ti (v := 0) (by decide) ?_
              refine lv_istore_n (lv' := [(3, .int 0), (4, .int 2), (0, .ref a0), (1, .int n0), (2, .int n1)]) hx hb dX5_bodiesFrom_40 rfl hl (by decide) rfl (fun ls hl => ?_)
              refine lv_iinc (v := 3) (lv' := [(4, .int 3), (3, .int 0), (0, .ref a0), (1, .int n0), (2, .int n1)]) hx hb dX5_bodiesFrom_41 hl (k := 1) rfl (by decide) (by decide) rfl (fun ls hl => ?_)
              refine lv_goto (tgt := 5) hx hb dX5_bodiesFrom_44 (by decide) ?_
              refine lv_iload hx hb dX5_bodiesFrom_5 (lv_at hl 0 rfl) ?_
              refine lv_iconst (v := 4) hx hb dX5_bodiesFrom_7 (by decide) ?_
              refine lv_icmp_ge (tgt := 47) hx hb dX5_bodiesFrom_8 (by decide) (fun c_37 => ?_) (fun c_37 => ?_)
              ·
                exact absurd c_37 (by decide)
              ·
                refine lv_aload_n hx hb dX5_bodiesFrom_11 rfl (lv_at hl 2 rfl) ?_
                refine lv_iload_n hx hb dX5_bodiesFrom_12 rfl (lv_at hl 3 rfl) ?_
                refine lv_iload hx hb dX5_bodiesFrom_13 (lv_at hl 0 rfl) ?_
                refine lv_iload_n hx hb dX5_bodiesFrom_15 rfl (lv_at hl 4 rfl) ?_
                refine lv_iconst (v := 0) hx hb dX5_bodiesFrom_16 (by decide) ?_
                have hPc := hP.sub (ws' := [(a0, .inr (5, [.ref a1, .ref a2, .ref a3, .int z32, .int (-1), .int z33, .int 1000000, .int 0, .int 0, .int z34, .int 2, .int n1, .int 0])), (a1, .inr (1, [.long 0, .int 1000, .int (-1), .int (-1), .int 0, .ref a4, .ref a5, .ref a6, .ref a7, .ref a8, .ref a9, .long 0, .ref a10])), (a3, .inl (G.2 0, 200, .inl z35)), (a10, .inl (G.2 1, 24, .inr (.inl (fun _ => 0)))), (a8, .inr (6, [.int 8, .int 5, .ref a11, .int 0]))]) [0, 1, 2, 3, 4] rfl
                have hDc := hD.sub (ws' := [(a0, .inr (5, [.ref a1, .ref a2, .ref a3, .int z32, .int (-1), .int z33, .int 1000000, .int 0, .int 0, .int z34, .int 2, .int n1, .int 0])), (a1, .inr (1, [.long 0, .int 1000, .int (-1), .int (-1), .int 0, .ref a4, .ref a5, .ref a6, .ref a7, .ref a8, .ref a9, .long 0, .ref a10])), (a3, .inl (G.2 0, 200, .inl z35)), (a10, .inl (G.2 1, 24, .inr (.inl (fun _ => 0)))), (a8, .inr (6, [.int 8, .int 5, .ref a11, .int 0]))]) [0, 1, 2, 3, 4] (by decide) rfl
                have hFc := va_free (wc := [(a0, .inr (5, [.ref a1, .ref a2, .ref a3, .int z32, .int (-1), .int z33, .int 1000000, .int 0, .int 0, .int z34, .int 2, .int n1, .int 0])), (a1, .inr (1, [.long 0, .int 1000, .int (-1), .int (-1), .int 0, .ref a4, .ref a5, .ref a6, .ref a7, .ref a8, .ref a9, .long 0, .ref a10])), (a3, .inl (G.2 0, 200, .inl z35)), (a10, .inl (G.2 1, 24, .inr (.inl (fun _ => 0)))), (a8, .inr (6, [.int 8, .int 5, .ref a11, .int 0]))]) hD hS hA [0, 1, 2, 3, 4] rfl
                refine va_callv (va_runV (As := [.int n0, .int 3, .int n1, .int 0]) (rest := []) ⟨hx, hb, hml, hown, hts⟩ (k_run3 l G a0 a1 a3 a10 a8 a2 a4 a5 a6 a7 a9 a11 H.size n0 n1 z32 (-1) z33 1000000 0 0 z34 2 n1 z35 ⟨by omega, by omega⟩ ⟨by omega, by omega⟩) (cwV 4 hts gV_X5_91 rfl rfl rfl hv_X5_run ⟨Nat.le_of_ble_eq_true rfl, Nat.le_of_ble_eq_true rfl⟩) (g5_preV hPc hK hDc hN hT hS hFc (ci := 5) (q0 := 0) rfl rfl) rfl rfl hl.1 rfl (lv_room (Nat.le_of_ble_eq_true rfl)) dX5_bodiesFrom_17 ⟨Nat.le_of_ble_eq_true rfl, Nat.le_of_ble_eq_true rfl⟩) hS (fun q _ h => hFc q h) hFc (fun u t H1 locs ht hvm hw hB hz1 hk1 hS => ?_)
                obtain ⟨hP1, hD1⟩ := hB
                rw [ht] at hP1
                obtain ⟨z44, z45, z46, z47, i_38, i_39, i_40, i_41, i_42, i_43, rfl⟩ := hw
                have i_38 : z44.toInt = n0.toInt % 8 := i_38
                have i_39 : 0 ≤ z44.toInt ∧ z44.toInt ≤ 7 := i_39
                have i_40 : (z44.toInt = 0 → z45.toInt = -1) ∧ (0 < z44.toInt → z45.toInt = n1.toInt) := i_40
                have i_41 : -1 ≤ z45.toInt ∧ z45.toInt ≤ 23 := i_41
                have i_42 : 0 ≤ z46.toInt ∧ z46.toInt ≤ 63 := i_42
                have i_43 : ∀ j : Nat, (j : Int) < z44.toInt → (z47 j).toInt = n1.toInt * 64 + (n0.toInt - ((j : Int) + 1)) := i_43
                obtain ⟨hP, hD⟩ := va_join (wr := []) (w1 := [(a0, .inr (5, [.ref a1, .ref a2, .ref a3, .int z44, .int (-1), .int z45, .int 1000000, .int 0, .int 0, .int z46, .int 3, .int n1, .int 0])), (a1, .inr (1, [.long 0, .int 1000, .int (-1), .int (-1), .int 0, .ref a4, .ref a5, .ref a6, .ref a7, .ref a8, .ref a9, .long 0, .ref a10])), (a3, .inl (G.2 0, 200, .inl z47)), (a10, .inl (G.2 1, 24, .inr (.inl (fun _ => 0)))), (a8, .inr (6, [.int 8, .int 5, .ref a11, .int 0]))]) hP hD [0, 1, 2, 3, 4] [] rfl rfl (by decide) (by decide) hk1 hFc hP1 hD1
                generalize H1 = H at hP hS ⊢
                have hP : va_P G.1 vwCl [(a0, .inr (5, [.ref a1, .ref a2, .ref a3, .int z44, .int (-1), .int z45, .int 1000000, .int 0, .int 0, .int z46, .int 3, .int n1, .int 0])), (a1, .inr (1, [.long 0, .int 1000, .int (-1), .int (-1), .int 0, .ref a4, .ref a5, .ref a6, .ref a7, .ref a8, .ref a9, .long 0, .ref a10])), (a3, .inl (G.2 0, 200, .inl z47)), (a10, .inl (G.2 1, 24, .inr (.inl (fun _ => 0)))), (a8, .inr (6, [.int 8, .int 5, .ref a11, .int 0]))] H := hP
                have hD : va_D A [(a0, .inr (5, [.ref a1, .ref a2, .ref a3, .int z44, .int (-1), .int z45, .int 1000000, .int 0, .int 0, .int z46, .int 3, .int n1, .int 0])), (a1, .inr (1, [.long 0, .int 1000, .int (-1), .int (-1), .int 0, .ref a4, .ref a5, .ref a6, .ref a7, .ref a8, .ref a9, .long 0, .ref a10])), (a3, .inl (G.2 0, 200, .inl z47)), (a10, .inl (G.2 1, 24, .inr (.inl (fun _ => 0)))), (a8, .inr (6, [.int 8, .int 5, .ref a11, .int 0]))] := hD
                refine lv_iload_n hx hb dX5_bodiesFrom_20 rfl (lv_at hl 1 rfl) ?_
                refine lv_aload_n hx hb dX5_bodiesFrom_21 rfl (lv_at hl 2 rfl) ?_
                refine va_get (D := G.1) (ci := 5) (v := .int (-1)) (C := RX5) (T := TX5) (N := 13) hx hb hts inG_X5 hown hK hP 0 rfl rfl 4 (by decide) (hts _ fl_X5_39) (fun _ h9 => h9) rfl dX5_bodiesFrom_22 ?_
                refine lv_iconst (v := (-1)) hx hb dX5_bodiesFrom_25 (by decide) ?_
                refine lv_icmp_ne (tgt := 33) hx hb dX5_bodiesFrom_26 (by decide) (fun c_48 => ?_) (fun c_48 => ?_)
                ·
                  exact absurd c_48 (by decide)
                ·
                  refine lv_iconst (v := 0) hx hb dX5_bodiesFrom_29 (by decide) ?_
                  refine lv_goto (tgt := 39) hx hb dX5_bodiesFrom_30 (by decide) ?_
                  refine lv_ior hx hb dX5_bodiesFrom_39 ?_
                  refine g5_ti (v := 0) (by decide) ?_
                  refine lv_istore_n (lv' := [(3, .int 0), (4, .int 3), (0, .ref a0), (1, .int n0), (2, .int n1)]) hx hb dX5_bodiesFrom_40 rfl hl (by decide) rfl (fun ls hl => ?_)
                  refine lv_iinc (v := 4) (lv' := [(4, .int 4), (3, .int 0), (0, .ref a0), (1, .int n0), (2, .int n1)]) hx hb dX5_bodiesFrom_41 hl (k := 1) rfl (by decide) (by decide) rfl (fun ls hl => ?_)
                  refine lv_goto (tgt := 5) hx hb dX5_bodiesFrom_44 (by decide) ?_
                  refine lv_iload hx hb dX5_bodiesFrom_5 (lv_at hl 0 rfl) ?_
                  refine lv_iconst (v := 4) hx hb dX5_bodiesFrom_7 (by decide) ?_
                  refine lv_icmp_ge (tgt := 47) hx hb dX5_bodiesFrom_8 (by decide) (fun c_49 => ?_) (fun c_49 => ?_)
                  ·
                    refine lv_iload_n hx hb dX5_bodiesFrom_47 rfl (lv_at hl 1 rfl) ?_
                    exact W.iret (v := 0) hx hb hr (fun t ht hW => ⟨⟨0, [(a0, .inr (5, [.ref a1, .ref a2, .ref a3, .int z44, .int (-1), .int z45, .int 1000000, .int 0, .int 0, .int z46, .int 3, .int n1, .int 0])), (a1, .inr (1, [.long 0, .int 1000, .int (-1), .int (-1), .int 0, .ref a4, .ref a5, .ref a6, .ref a7, .ref a8, .ref a9, .long 0, .ref a10])), (a3, .inl (G.2 0, 200, .inl z47)), (a10, .inl (G.2 1, 24, .inr (.inl (fun _ => 0)))), (a8, .inr (6, [.int 8, .int 5, .ref a11, .int 0]))], rfl, ⟨z8, z9, z10, z11, z20, z21, z22, z23, z32, z33, z34, z35, z44, z45, z46, z47, i_2, i_3, i_4, i_5, i_6, i_7, i_14, i_15, i_16, i_17, i_18, i_19, i_26, i_27, i_28, i_29, i_30, i_31, i_38, i_39, i_40, i_41, i_42, i_43, rfl, rfl⟩, by rw [ht]; exact hP, hD⟩, hS.F ht⟩) hS.2.2 dX5_bodiesFrom_48
                  ·
                    exact absurd c_49 (by decide)
theorem ml_X11_231 : Cond.methodLink RX11 231 yX5_bodiesFrom ∈ tblG := tg 878 (by decide +kernel) (by decide +kernel)
theorem im_X5_bodiesFrom : Cond.instanceMethod yX5_bodiesFrom ∈ tblG := tg 879 (by decide +kernel) (by decide +kernel)
theorem se_X5_bodiesFrom : Cond.selects RX5 yX5_bodiesFrom yX5_bodiesFrom ∈ tblG := tg 880 (by decide +kernel) (by decide +kernel)
theorem cd_X5_bodiesFrom : Cond.code yX5_bodiesFrom cX5_bodiesFrom 5 (some .int) ∈ tblG := tg 881 (by decide +kernel) (by decide +kernel)
theorem gW_X5_bodiesFrom : GoodIn tblG (wsG yX5_bodiesFrom cX5_bodiesFrom 5 (some .int)) := tgi cd_X5_bodiesFrom
theorem gV_X11_231 : GoodIn tblG (wsV RX11 231 RX5 yX5_bodiesFrom (wsG yX5_bodiesFrom cX5_bodiesFrom 5 (some .int))) := tgV ml_X11_231 im_X5_bodiesFrom se_X5_bodiesFrom ini_X5 gW_X5_bodiesFrom
theorem hv_X5_bodiesFrom : yX5_bodiesFrom.cls = RX5 ∧ yX5_bodiesFrom.cls ≠ "java/lang/invoke/MethodHandle" ∧ yX5_bodiesFrom.cls ≠ "java/lang/invoke/VarHandle" ∧ (parseMethodDescriptor yX5_bodiesFrom.desc).map (fun d => d.parameters.length) = some 2 := by decide +kernel
theorem dX11_sees_0 : decode cX11_sees 0 = .ok (.iload_n 1, 1) := by decide +kernel
theorem dX11_sees_1 : decode cX11_sees 1 = .ok (.invokestatic 97, 3) := by decide +kernel
theorem dX11_sees_4 : decode cX11_sees 4 = .ok (.ifCond .eq 10, 3) := by decide +kernel
theorem dX11_sees_7 : decode cX11_sees 7 = .ok (.iload_n 2, 1) := by decide +kernel
theorem dX11_sees_8 : decode cX11_sees 8 = .ok (.invokestatic 127, 3) := by decide +kernel
theorem dX11_sees_11 : decode cX11_sees 11 = .ok (.ifCond .ne 5, 3) := by decide +kernel
theorem dX11_sees_14 : decode cX11_sees 14 = .ok (.iconst (-1), 1) := by decide +kernel
theorem dX11_sees_15 : decode cX11_sees 15 = .ok (.ireturn, 1) := by decide +kernel
theorem dX11_sees_16 : decode cX11_sees 16 = .ok (.aload_n 0, 1) := by decide +kernel
theorem dX11_sees_17 : decode cX11_sees 17 = .ok (.getfield 29, 3) := by decide +kernel
theorem dX11_sees_20 : decode cX11_sees 20 = .ok (.iload_n 1, 1) := by decide +kernel
theorem dX11_sees_21 : decode cX11_sees 21 = .ok (.iload_n 2, 1) := by decide +kernel
theorem dX11_sees_22 : decode cX11_sees 22 = .ok (.invokevirtual 231, 3) := by decide +kernel
theorem dX11_sees_25 : decode cX11_sees 25 = .ok (.ireturn, 1) := by decide +kernel
set_option maxHeartbeats 4000000 in
set_option maxRecDepth 100000 in
theorem kX11_sees (l : Launch) (G : g5_G) (a0 a1 a2 a3 a4 a5 a6 a7 a8 a9 a10 a11 a12 a13 a14 a15 a16 a17 a18 a19 a20 a21 a22 : Nat) (sz : Nat) (n0 : Int32) (n1 : Int32) : Met l yX11_sees (wsG yX11_sees cX11_sees 3 (some .int)) ({ frames := 4, cells := 0, slots := 0, locals := 94 }) (va_Pc [.ref a0, .int n0, .int n1] (g5_P G [(a0, .inr (11, [.ref a1, .ref a2, .ref a3, .ref a4, .ref a5, .ref a6, .ref a7, .ref a8, .ref a9, .ref a10, .int 0, .int 0, .int (-1), .ref a11, .int 0, .ref a12, .int 0])), (a4, .inr (5, [.ref a1, .ref a13, .ref a14, .int 0, .int 0, .int 0, .int 0, .int 0, .int 0, .int 0, .int 0, .int 0, .int 0])), (a1, .inr (1, [.long 0, .int 1000, .int (-1), .int (-1), .int 0, .ref a15, .ref a16, .ref a17, .ref a18, .ref a19, .ref a20, .long 0, .ref a21])), (a14, .inl (G.2 0, 200, .inl (fun _ => 0))), (a21, .inl (G.2 1, 24, .inr (.inl (fun _ => 0)))), (a19, .inr (6, [.int 8, .int 5, .ref a22, .int 0]))] sz)) (va_Qi (fun (r : Int32) (u : va_W) => ((n0.toInt < 0) ∧ (r = (-1)) ∧ (u = [])) ∨ ((n0.toInt ≥ 0) ∧ (n0.toInt ≥ 64) ∧ (r = (-1)) ∧ (u = [])) ∨ ((n0.toInt ≥ 0) ∧ (n0.toInt < 64) ∧ (n1.toInt < 0) ∧ (r = (-1)) ∧ (u = [])) ∨ ((n0.toInt ≥ 0) ∧ (n0.toInt < 64) ∧ (n1.toInt ≥ 0) ∧ (n1.toInt ≥ 24) ∧ (r = (-1)) ∧ (u = [])) ∨ (∃ (z41 : Int32) (z42 : Int32) (z43 : Int32) (z44 : Nat → Int32) (z45 : Int32) (z46 : Int32) (z47 : Int32) (z48 : Nat → Int32) (z49 : Int32) (z50 : Int32) (z51 : Int32) (z52 : Nat → Int32) (z53 : Int32) (z54 : Int32) (z55 : Int32) (z56 : Nat → Int32), (n0.toInt ≥ 0) ∧ (n0.toInt < 64) ∧ (n1.toInt ≥ 0) ∧ (n1.toInt < 24) ∧ (z41.toInt = n0.toInt / 8) ∧ (0 ≤ z41.toInt ∧ z41.toInt ≤ 7) ∧ ((z41.toInt = 0 → z42.toInt = -1) ∧ (0 < z41.toInt → z42.toInt = n1.toInt)) ∧ (-1 ≤ z42.toInt ∧ z42.toInt ≤ 23) ∧ (0 ≤ z43.toInt ∧ z43.toInt ≤ 63) ∧ (∀ j : Nat, (j : Int) < z41.toInt → (z44 j).toInt = n1.toInt * 64 + (n0.toInt - 8 * ((j : Int) + 1))) ∧ (z45.toInt = 7 - n0.toInt % 8) ∧ (0 ≤ z45.toInt ∧ z45.toInt ≤ 7) ∧ ((z45.toInt = 0 → z46.toInt = -1) ∧ (0 < z45.toInt → z46.toInt = n1.toInt)) ∧ (-1 ≤ z46.toInt ∧ z46.toInt ≤ 23) ∧ (0 ≤ z47.toInt ∧ z47.toInt ≤ 63) ∧ (∀ j : Nat, (j : Int) < z45.toInt → (z48 j).toInt = n1.toInt * 64 + (n0.toInt + ((j : Int) + 1))) ∧ (z49.toInt = 7 - n0.toInt / 8) ∧ (0 ≤ z49.toInt ∧ z49.toInt ≤ 7) ∧ ((z49.toInt = 0 → z50.toInt = -1) ∧ (0 < z49.toInt → z50.toInt = n1.toInt)) ∧ (-1 ≤ z50.toInt ∧ z50.toInt ≤ 23) ∧ (0 ≤ z51.toInt ∧ z51.toInt ≤ 63) ∧ (∀ j : Nat, (j : Int) < z49.toInt → (z52 j).toInt = n1.toInt * 64 + (n0.toInt + 8 * ((j : Int) + 1))) ∧ (z53.toInt = n0.toInt % 8) ∧ (0 ≤ z53.toInt ∧ z53.toInt ≤ 7) ∧ ((z53.toInt = 0 → z54.toInt = -1) ∧ (0 < z53.toInt → z54.toInt = n1.toInt)) ∧ (-1 ≤ z54.toInt ∧ z54.toInt ≤ 23) ∧ (0 ≤ z55.toInt ∧ z55.toInt ≤ 63) ∧ (∀ j : Nat, (j : Int) < z53.toInt → (z56 j).toInt = n1.toInt * 64 + (n0.toInt - ((j : Int) + 1))) ∧ (r = 0) ∧ (u = []))) (g5_B G (va_A [(a0, .inr (11, [.ref a1, .ref a2, .ref a3, .ref a4, .ref a5, .ref a6, .ref a7, .ref a8, .ref a9, .ref a10, .int 0, .int 0, .int (-1), .ref a11, .int 0, .ref a12, .int 0])), (a4, .inr (5, [.ref a1, .ref a13, .ref a14, .int 0, .int 0, .int 0, .int 0, .int 0, .int 0, .int 0, .int 0, .int 0, .int 0])), (a1, .inr (1, [.long 0, .int 1000, .int (-1), .int (-1), .int 0, .ref a15, .ref a16, .ref a17, .ref a18, .ref a19, .ref a20, .long 0, .ref a21])), (a14, .inl (G.2 0, 200, .inl (fun _ => 0))), (a21, .inl (G.2 1, 24, .inr (.inl (fun _ => 0)))), (a19, .inr (6, [.int 8, .int 5, .ref a22, .int 0]))] sz)) (va_A [(a0, .inr (11, [.ref a1, .ref a2, .ref a3, .ref a4, .ref a5, .ref a6, .ref a7, .ref a8, .ref a9, .ref a10, .int 0, .int 0, .int (-1), .ref a11, .int 0, .ref a12, .int 0])), (a4, .inr (5, [.ref a1, .ref a13, .ref a14, .int 0, .int 0, .int 0, .int 0, .int 0, .int 0, .int 0, .int 0, .int 0, .int 0])), (a1, .inr (1, [.long 0, .int 1000, .int (-1), .int (-1), .int 0, .ref a15, .ref a16, .ref a17, .ref a18, .ref a19, .ref a20, .long 0, .ref a21])), (a14, .inl (G.2 0, 200, .inl (fun _ => 0))), (a21, .inl (G.2 1, 24, .inr (.inl (fun _ => 0)))), (a19, .inr (6, [.int 8, .int 5, .ref a22, .int 0]))] sz)) 0 0 (va_A [(a0, .inr (11, [.ref a1, .ref a2, .ref a3, .ref a4, .ref a5, .ref a6, .ref a7, .ref a8, .ref a9, .ref a10, .int 0, .int 0, .int (-1), .ref a11, .int 0, .ref a12, .int 0])), (a4, .inr (5, [.ref a1, .ref a13, .ref a14, .int 0, .int 0, .int 0, .int 0, .int 0, .int 0, .int 0, .int 0, .int 0, .int 0])), (a1, .inr (1, [.long 0, .int 1000, .int (-1), .int (-1), .int 0, .ref a15, .ref a16, .ref a17, .ref a18, .ref a19, .ref a20, .long 0, .ref a21])), (a14, .inl (G.2 0, 200, .inl (fun _ => 0))), (a21, .inl (G.2 1, 24, .inr (.inl (fun _ => 0)))), (a19, .inr (6, [.int 8, .int 5, .ref a22, .int 0]))] sz) := by
  refine Met.ofW (cc := cX11_sees) (maxL := 3) (ret := (some .int)) (by decide) rfl ?_
  intro p e s m args below meth c s₁ B hml hv
  obtain ⟨rfl, hsz, hP, hK, hD0, hN, hT⟩ := hv
  have hx := B.exec
  have hb := B.bytes
  have hr := B.returns
  have hts : ∀ w ∈ tblG, w.before _ s = true := fun w h => atoms_spec (ws := (wsG yX11_sees cX11_sees 3 (some .int))) B.pre w (List.mem_cons_of_mem _ h)
  have hown : s.vm.findClass RX11 = some m.cls := findClass_of_methodNamed B.named
  have hlocks := B.notSynchronized
  subst hsz
  have hD := hD0.self (sz := s.heap.size)
  generalize hAe : va_A [(a0, .inr (11, [.ref a1, .ref a2, .ref a3, .ref a4, .ref a5, .ref a6, .ref a7, .ref a8, .ref a9, .ref a10, .int 0, .int 0, .int (-1), .ref a11, .int 0, .ref a12, .int 0])), (a4, .inr (5, [.ref a1, .ref a13, .ref a14, .int 0, .int 0, .int 0, .int 0, .int 0, .int 0, .int 0, .int 0, .int 0, .int 0])), (a1, .inr (1, [.long 0, .int 1000, .int (-1), .int (-1), .int 0, .ref a15, .ref a16, .ref a17, .ref a18, .ref a19, .ref a20, .long 0, .ref a21])), (a14, .inl (G.2 0, 200, .inl (fun _ => 0))), (a21, .inl (G.2 1, 24, .inr (.inl (fun _ => 0)))), (a19, .inr (6, [.int 8, .int 5, .ref a22, .int 0]))] s.heap.size = A at hD hT ⊢
  have hA : ∀ q : Nat, s.heap.size ≤ q → A q := fun q h => by rw [← hAe]; exact Or.inr h
  have hS : va_S A s.heap s.heap [] := va_S.rf
  have hP : va_P G.1 vwCl [(a0, .inr (11, [.ref a1, .ref a2, .ref a3, .ref a4, .ref a5, .ref a6, .ref a7, .ref a8, .ref a9, .ref a10, .int 0, .int 0, .int (-1), .ref a11, .int 0, .ref a12, .int 0])), (a4, .inr (5, [.ref a1, .ref a13, .ref a14, .int 0, .int 0, .int 0, .int 0, .int 0, .int 0, .int 0, .int 0, .int 0, .int 0])), (a1, .inr (1, [.long 0, .int 1000, .int (-1), .int (-1), .int 0, .ref a15, .ref a16, .ref a17, .ref a18, .ref a19, .ref a20, .long 0, .ref a21])), (a14, .inl (G.2 0, 200, .inl (fun _ => 0))), (a21, .inl (G.2 1, 24, .inr (.inl (fun _ => 0)))), (a19, .inr (6, [.int 8, .int 5, .ref a22, .int 0]))] s.heap := hP
  have hl := lv_entry ([.ref a0, .int n0, .int n1]) (n := 3) (Nat.le_of_ble_eq_true rfl)
  rw [lg_entry_eq]
  generalize (lg_sl ([.ref a0, .int n0, .int n1]) ++ List.replicate (3 - (lg_sl ([.ref a0, .int n0, .int n1])).length) Slot.unset).toArray = ls at hl ⊢
  have hl : lv_has ls 3 [(0, .ref a0), (1, .int n0), (2, .int n1)] := hl
  refine lv_iload_n hx hb dX11_sees_0 rfl (lv_at hl 1 rfl) ?_
  have hPc := hP.sub (ws' := []) [] rfl
  have hDc := hD.sub (ws' := []) [] (by decide) rfl
  have hFc := va_free (wc := []) hD hS hA [] rfl
  refine va_calli (va_runS (As := [.int n0]) (rest := []) ⟨hx, hb, hml, hown, hts⟩ (kX11_isCell_2 l G s.heap.size n0) (va_cwS 1 hts gS_X11_97 rfl rfl rfl hs_X11_isCell ⟨Nat.le_of_ble_eq_true rfl, Nat.le_of_ble_eq_true rfl⟩) (g5_preS hPc hK hDc hN hT hS hFc) rfl rfl hl.1 rfl (lv_room (Nat.le_of_ble_eq_true rfl)) dX11_sees_1 ⟨Nat.le_of_ble_eq_true rfl, Nat.le_of_ble_eq_true rfl⟩) hS (fun q _ h => hFc q h) hFc (fun r u t H1 locs ht hvm hw hB hz1 hk1 hS => ?_)
  obtain ⟨hP1, hD1⟩ := hB
  rw [ht] at hP1
  rcases hw with ⟨i_1, rfl, rfl⟩ | ⟨i_2, i_3, rfl, rfl⟩ | ⟨i_4, i_5, rfl, rfl⟩
  ·
    have hP := g5_same hP hk1
    generalize H1 = H at hP hS ⊢
    refine lv_if_eq (tgt := 14) hx hb dX11_sees_4 (by decide) (fun c_6 => ?_) (fun c_6 => ?_)
    ·
      refine lv_iconst (v := (-1)) hx hb dX11_sees_14 (by decide) ?_
      have hP := hP.sub (ws' := []) [] rfl
      have hD := hD.sub (ws' := []) [] (by decide) rfl
      exact W.iret (v := (-1)) hx hb hr (fun t ht hW => ⟨⟨(-1), [], rfl, Or.inl (⟨i_1, rfl, rfl⟩), by rw [ht]; exact hP, hD⟩, hS.F ht⟩) hS.2.2 dX11_sees_15
    ·
      exact absurd c_6 (by decide)
  ·
    have hP := g5_same hP hk1
    generalize H1 = H at hP hS ⊢
    refine lv_if_eq (tgt := 14) hx hb dX11_sees_4 (by decide) (fun c_7 => ?_) (fun c_7 => ?_)
    ·
      refine lv_iconst (v := (-1)) hx hb dX11_sees_14 (by decide) ?_
      have hP := hP.sub (ws' := []) [] rfl
      have hD := hD.sub (ws' := []) [] (by decide) rfl
      exact W.iret (v := (-1)) hx hb hr (fun t ht hW => ⟨⟨(-1), [], rfl, Or.inr (Or.inl (⟨i_2, i_3, rfl, rfl⟩)), by rw [ht]; exact hP, hD⟩, hS.F ht⟩) hS.2.2 dX11_sees_15
    ·
      exact absurd c_7 (by decide)
  ·
    have hP := g5_same hP hk1
    generalize H1 = H at hP hS ⊢
    refine lv_if_eq (tgt := 14) hx hb dX11_sees_4 (by decide) (fun c_8 => ?_) (fun c_8 => ?_)
    ·
      exact absurd c_8 (by decide)
    ·
      refine lv_iload_n hx hb dX11_sees_7 rfl (lv_at hl 2 rfl) ?_
      have hPc := hP.sub (ws' := []) [] rfl
      have hDc := hD.sub (ws' := []) [] (by decide) rfl
      have hFc := va_free (wc := []) hD hS hA [] rfl
      refine va_calli (va_runS (As := [.int n1]) (rest := []) ⟨hx, hb, hml, hown, hts⟩ (kX11_isHour_2 l G H.size n1) (va_cwS 1 hts gS_X11_127 rfl rfl rfl hs_X11_isHour ⟨Nat.le_of_ble_eq_true rfl, Nat.le_of_ble_eq_true rfl⟩) (g5_preS hPc hK hDc hN hT hS hFc) rfl rfl hl.1 rfl (lv_room (Nat.le_of_ble_eq_true rfl)) dX11_sees_8 ⟨Nat.le_of_ble_eq_true rfl, Nat.le_of_ble_eq_true rfl⟩) hS (fun q _ h => hFc q h) hFc (fun r u t H1 locs ht hvm hw hB hz1 hk1 hS => ?_)
      obtain ⟨hP1, hD1⟩ := hB
      rw [ht] at hP1
      rcases hw with ⟨i_9, rfl, rfl⟩ | ⟨i_10, i_11, rfl, rfl⟩ | ⟨i_12, i_13, rfl, rfl⟩
      ·
        have hP := g5_same hP hk1
        generalize H1 = H at hP hS ⊢
        refine lv_if_ne (tgt := 16) hx hb dX11_sees_11 (by decide) (fun c_14 => ?_) (fun c_14 => ?_)
        ·
          exact absurd c_14 (by decide)
        ·
          refine lv_iconst (v := (-1)) hx hb dX11_sees_14 (by decide) ?_
          have hP := hP.sub (ws' := []) [] rfl
          have hD := hD.sub (ws' := []) [] (by decide) rfl
          exact W.iret (v := (-1)) hx hb hr (fun t ht hW => ⟨⟨(-1), [], rfl, Or.inr (Or.inr (Or.inl (⟨i_4, i_5, i_9, rfl, rfl⟩))), by rw [ht]; exact hP, hD⟩, hS.F ht⟩) hS.2.2 dX11_sees_15
      ·
        have hP := g5_same hP hk1
        generalize H1 = H at hP hS ⊢
        refine lv_if_ne (tgt := 16) hx hb dX11_sees_11 (by decide) (fun c_15 => ?_) (fun c_15 => ?_)
        ·
          exact absurd c_15 (by decide)
        ·
          refine lv_iconst (v := (-1)) hx hb dX11_sees_14 (by decide) ?_
          have hP := hP.sub (ws' := []) [] rfl
          have hD := hD.sub (ws' := []) [] (by decide) rfl
          exact W.iret (v := (-1)) hx hb hr (fun t ht hW => ⟨⟨(-1), [], rfl, Or.inr (Or.inr (Or.inr (Or.inl (⟨i_4, i_5, i_10, i_11, rfl, rfl⟩)))), by rw [ht]; exact hP, hD⟩, hS.F ht⟩) hS.2.2 dX11_sees_15
      ·
        have hP := g5_same hP hk1
        generalize H1 = H at hP hS ⊢
        refine lv_if_ne (tgt := 16) hx hb dX11_sees_11 (by decide) (fun c_16 => ?_) (fun c_16 => ?_)
        ·
          refine lv_aload_n hx hb dX11_sees_16 rfl (lv_at hl 0 rfl) ?_
          refine va_get (D := G.1) (ci := 11) (v := .ref a4) (C := RX11) (T := TX11) (N := 17) hx hb hts inG_X11 hown hK hP 0 rfl rfl 3 (by decide) (hts _ fl_X11_29) (fun _ h9 => h9) rfl dX11_sees_17 ?_
          refine lv_iload_n hx hb dX11_sees_20 rfl (lv_at hl 1 rfl) ?_
          refine lv_iload_n hx hb dX11_sees_21 rfl (lv_at hl 2 rfl) ?_
          have hPc := hP.sub (ws' := [(a4, .inr (5, [.ref a1, .ref a13, .ref a14, .int 0, .int 0, .int 0, .int 0, .int 0, .int 0, .int 0, .int 0, .int 0, .int 0])), (a1, .inr (1, [.long 0, .int 1000, .int (-1), .int (-1), .int 0, .ref a15, .ref a16, .ref a17, .ref a18, .ref a19, .ref a20, .long 0, .ref a21])), (a14, .inl (G.2 0, 200, .inl (fun _ => 0))), (a21, .inl (G.2 1, 24, .inr (.inl (fun _ => 0)))), (a19, .inr (6, [.int 8, .int 5, .ref a22, .int 0]))]) [1, 2, 3, 4, 5] rfl
          have hDc := hD.sub (ws' := [(a4, .inr (5, [.ref a1, .ref a13, .ref a14, .int 0, .int 0, .int 0, .int 0, .int 0, .int 0, .int 0, .int 0, .int 0, .int 0])), (a1, .inr (1, [.long 0, .int 1000, .int (-1), .int (-1), .int 0, .ref a15, .ref a16, .ref a17, .ref a18, .ref a19, .ref a20, .long 0, .ref a21])), (a14, .inl (G.2 0, 200, .inl (fun _ => 0))), (a21, .inl (G.2 1, 24, .inr (.inl (fun _ => 0)))), (a19, .inr (6, [.int 8, .int 5, .ref a22, .int 0]))]) [1, 2, 3, 4, 5] (by decide) rfl
          have hFc := va_free (wc := [(a4, .inr (5, [.ref a1, .ref a13, .ref a14, .int 0, .int 0, .int 0, .int 0, .int 0, .int 0, .int 0, .int 0, .int 0, .int 0])), (a1, .inr (1, [.long 0, .int 1000, .int (-1), .int (-1), .int 0, .ref a15, .ref a16, .ref a17, .ref a18, .ref a19, .ref a20, .long 0, .ref a21])), (a14, .inl (G.2 0, 200, .inl (fun _ => 0))), (a21, .inl (G.2 1, 24, .inr (.inl (fun _ => 0)))), (a19, .inr (6, [.int 8, .int 5, .ref a22, .int 0]))]) hD hS hA [1, 2, 3, 4, 5] rfl
          refine va_calli (va_runV (As := [.int n0, .int n1]) (rest := []) ⟨hx, hb, hml, hown, hts⟩ (kX5_bodiesFrom l G a4 a1 a13 a14 a15 a16 a17 a18 a19 a20 a21 a22 H.size n0 n1 ⟨by omega, by omega⟩ ⟨by omega, by omega⟩) (cwV 2 hts gV_X11_231 rfl rfl rfl hv_X5_bodiesFrom ⟨Nat.le_of_ble_eq_true rfl, Nat.le_of_ble_eq_true rfl⟩) (g5_preV hPc hK hDc hN hT hS hFc (ci := 5) (q0 := 0) rfl rfl) rfl rfl hl.1 rfl (lv_room (Nat.le_of_ble_eq_true rfl)) dX11_sees_22 ⟨Nat.le_of_ble_eq_true rfl, Nat.le_of_ble_eq_true rfl⟩) hS (fun q _ h => hFc q h) hFc (fun r u t H1 locs ht hvm hw hB hz1 hk1 hS => ?_)
          obtain ⟨hP1, hD1⟩ := hB
          rw [ht] at hP1
          obtain ⟨z41, z42, z43, z44, z45, z46, z47, z48, z49, z50, z51, z52, z53, z54, z55, z56, i_17, i_18, i_19, i_20, i_21, i_22, i_23, i_24, i_25, i_26, i_27, i_28, i_29, i_30, i_31, i_32, i_33, i_34, i_35, i_36, i_37, i_38, i_39, i_40, rfl, rfl⟩ := hw
          obtain ⟨hP, hD⟩ := va_join (wr := [(a0, .inr (11, [.ref a1, .ref a2, .ref a3, .ref a4, .ref a5, .ref a6, .ref a7, .ref a8, .ref a9, .ref a10, .int 0, .int 0, .int (-1), .ref a11, .int 0, .ref a12, .int 0]))]) (w1 := [(a4, .inr (5, [.ref a1, .ref a13, .ref a14, .int z53, .int (-1), .int z54, .int 1000000, .int 0, .int 0, .int z55, .int 3, .int n1, .int 0])), (a1, .inr (1, [.long 0, .int 1000, .int (-1), .int (-1), .int 0, .ref a15, .ref a16, .ref a17, .ref a18, .ref a19, .ref a20, .long 0, .ref a21])), (a14, .inl (G.2 0, 200, .inl z56)), (a21, .inl (G.2 1, 24, .inr (.inl (fun _ => 0)))), (a19, .inr (6, [.int 8, .int 5, .ref a22, .int 0]))]) hP hD [1, 2, 3, 4, 5] [0] rfl rfl (by decide) (by decide) hk1 hFc hP1 hD1
          generalize H1 = H at hP hS ⊢
          have hP : va_P G.1 vwCl [(a0, .inr (11, [.ref a1, .ref a2, .ref a3, .ref a4, .ref a5, .ref a6, .ref a7, .ref a8, .ref a9, .ref a10, .int 0, .int 0, .int (-1), .ref a11, .int 0, .ref a12, .int 0])), (a4, .inr (5, [.ref a1, .ref a13, .ref a14, .int z53, .int (-1), .int z54, .int 1000000, .int 0, .int 0, .int z55, .int 3, .int n1, .int 0])), (a1, .inr (1, [.long 0, .int 1000, .int (-1), .int (-1), .int 0, .ref a15, .ref a16, .ref a17, .ref a18, .ref a19, .ref a20, .long 0, .ref a21])), (a14, .inl (G.2 0, 200, .inl z56)), (a21, .inl (G.2 1, 24, .inr (.inl (fun _ => 0)))), (a19, .inr (6, [.int 8, .int 5, .ref a22, .int 0]))] H := hP
          have hD : va_D A [(a0, .inr (11, [.ref a1, .ref a2, .ref a3, .ref a4, .ref a5, .ref a6, .ref a7, .ref a8, .ref a9, .ref a10, .int 0, .int 0, .int (-1), .ref a11, .int 0, .ref a12, .int 0])), (a4, .inr (5, [.ref a1, .ref a13, .ref a14, .int z53, .int (-1), .int z54, .int 1000000, .int 0, .int 0, .int z55, .int 3, .int n1, .int 0])), (a1, .inr (1, [.long 0, .int 1000, .int (-1), .int (-1), .int 0, .ref a15, .ref a16, .ref a17, .ref a18, .ref a19, .ref a20, .long 0, .ref a21])), (a14, .inl (G.2 0, 200, .inl z56)), (a21, .inl (G.2 1, 24, .inr (.inl (fun _ => 0)))), (a19, .inr (6, [.int 8, .int 5, .ref a22, .int 0]))] := hD
          have hP := hP.sub (ws' := []) [] rfl
          have hD := hD.sub (ws' := []) [] (by decide) rfl
          exact W.iret (v := 0) hx hb hr (fun t ht hW => ⟨⟨0, [], rfl, Or.inr (Or.inr (Or.inr (Or.inr (⟨z41, z42, z43, z44, z45, z46, z47, z48, z49, z50, z51, z52, z53, z54, z55, z56, i_4, i_5, i_12, i_13, i_17, i_18, i_19, i_20, i_21, i_22, i_23, i_24, i_25, i_26, i_27, i_28, i_29, i_30, i_31, i_32, i_33, i_34, i_35, i_36, i_37, i_38, i_39, i_40, rfl, rfl⟩)))), by rw [ht]; exact hP, hD⟩, hS.F ht⟩) hS.2.2 dX11_sees_25
        ·
          exact absurd c_16 (by decide)
theorem dX11_late_0 : decode cX11_late 0 = .ok (.aload_n 0, 1) := by decide +kernel
theorem dX11_late_1 : decode cX11_late 1 = .ok (.getfield 12, 3) := by decide +kernel
theorem dX11_late_4 : decode cX11_late 4 = .ok (.getfield 167, 3) := by decide +kernel
theorem dX11_late_7 : decode cX11_late 7 = .ok (.iload_n 2, 1) := by decide +kernel
theorem dX11_late_8 : decode cX11_late 8 = .ok (.invokevirtual 160, 3) := by decide +kernel
theorem dX11_late_11 : decode cX11_late 11 = .ok (.ifCond .ne 5, 3) := by decide +kernel
theorem dX11_late_14 : decode cX11_late 14 = .ok (.iconst (-1), 1) := by decide +kernel
theorem dX11_late_15 : decode cX11_late 15 = .ok (.ireturn, 1) := by decide +kernel
theorem dX11_late_16 : decode cX11_late 16 = .ok (.aload_n 0, 1) := by decide +kernel
theorem dX11_late_17 : decode cX11_late 17 = .ok (.getfield 12, 3) := by decide +kernel
theorem dX11_late_20 : decode cX11_late 20 = .ok (.getfield 167, 3) := by decide +kernel
theorem dX11_late_23 : decode cX11_late 23 = .ok (.iload_n 1, 1) := by decide +kernel
theorem dX11_late_24 : decode cX11_late 24 = .ok (.iload_n 3, 1) := by decide +kernel
theorem dX11_late_25 : decode cX11_late 25 = .ok (.invokevirtual 163, 3) := by decide +kernel
theorem dX11_late_28 : decode cX11_late 28 = .ok (.istore 4, 2) := by decide +kernel
theorem dX11_late_30 : decode cX11_late 30 = .ok (.iload 4, 2) := by decide +kernel
theorem dX11_late_32 : decode cX11_late 32 = .ok (.iconst (-1), 1) := by decide +kernel
theorem dX11_late_33 : decode cX11_late 33 = .ok (.if_icmp .ne 7, 3) := by decide +kernel
theorem dX11_late_36 : decode cX11_late 36 = .ok (.iconst (-1), 1) := by decide +kernel
theorem dX11_late_37 : decode cX11_late 37 = .ok (.goto 14, 3) := by decide +kernel
theorem dX11_late_40 : decode cX11_late 40 = .ok (.aload_n 0, 1) := by decide +kernel
theorem dX11_late_41 : decode cX11_late 41 = .ok (.getfield 29, 3) := by decide +kernel
theorem dX11_late_44 : decode cX11_late 44 = .ok (.iload 4, 2) := by decide +kernel
theorem dX11_late_46 : decode cX11_late 46 = .ok (.iload_n 3, 1) := by decide +kernel
theorem dX11_late_47 : decode cX11_late 47 = .ok (.iload_n 2, 1) := by decide +kernel
theorem dX11_late_48 : decode cX11_late 48 = .ok (.invokevirtual 234, 3) := by decide +kernel
theorem dX11_late_51 : decode cX11_late 51 = .ok (.ireturn, 1) := by decide +kernel
set_option maxHeartbeats 4000000 in
set_option maxRecDepth 100000 in
theorem kX11_late (l : Launch) (G : g5_G) (a0 a1 a2 a3 a4 a5 a6 a7 a8 a9 a10 a11 a12 a13 a14 a15 a16 a17 a18 a19 a20 : Nat) (sz : Nat) (n0 : Int32) (n1 : Int32) (n2 : Int32) : Met l yX11_late (wsG yX11_late cX11_late 5 (some .int)) ({ frames := 1, cells := 0, slots := 0, locals := 21 }) (va_Pc [.ref a0, .int n0, .int n1, .int n2] (g5_P G [(a0, .inr (11, [.ref a1, .ref a2, .ref a3, .ref a4, .ref a5, .ref a6, .ref a7, .ref a8, .ref a9, .ref a10, .int 0, .int 0, .int (-1), .ref a11, .int 0, .ref a12, .int 0])), (a1, .inr (1, [.long 0, .int 1000, .int (-1), .int (-1), .int 0, .ref a13, .ref a14, .ref a15, .ref a16, .ref a17, .ref a18, .long 0, .ref a19])), (a15, .inr (6, [.int 5, .int 24, .ref a20, .int 0]))] sz)) (va_Qi (fun (r : Int32) (u : va_W) => ((n1.toInt < 0) ∧ (r = (-1)) ∧ (u = [])) ∨ ((n1.toInt ≥ 0) ∧ (n1.toInt ≥ 0) ∧ (r = (-1)) ∧ (u = []))) (g5_B G (va_A [(a0, .inr (11, [.ref a1, .ref a2, .ref a3, .ref a4, .ref a5, .ref a6, .ref a7, .ref a8, .ref a9, .ref a10, .int 0, .int 0, .int (-1), .ref a11, .int 0, .ref a12, .int 0])), (a1, .inr (1, [.long 0, .int 1000, .int (-1), .int (-1), .int 0, .ref a13, .ref a14, .ref a15, .ref a16, .ref a17, .ref a18, .long 0, .ref a19])), (a15, .inr (6, [.int 5, .int 24, .ref a20, .int 0]))] sz)) (va_A [(a0, .inr (11, [.ref a1, .ref a2, .ref a3, .ref a4, .ref a5, .ref a6, .ref a7, .ref a8, .ref a9, .ref a10, .int 0, .int 0, .int (-1), .ref a11, .int 0, .ref a12, .int 0])), (a1, .inr (1, [.long 0, .int 1000, .int (-1), .int (-1), .int 0, .ref a13, .ref a14, .ref a15, .ref a16, .ref a17, .ref a18, .long 0, .ref a19])), (a15, .inr (6, [.int 5, .int 24, .ref a20, .int 0]))] sz)) 0 0 (va_A [(a0, .inr (11, [.ref a1, .ref a2, .ref a3, .ref a4, .ref a5, .ref a6, .ref a7, .ref a8, .ref a9, .ref a10, .int 0, .int 0, .int (-1), .ref a11, .int 0, .ref a12, .int 0])), (a1, .inr (1, [.long 0, .int 1000, .int (-1), .int (-1), .int 0, .ref a13, .ref a14, .ref a15, .ref a16, .ref a17, .ref a18, .long 0, .ref a19])), (a15, .inr (6, [.int 5, .int 24, .ref a20, .int 0]))] sz) := by
  refine Met.ofW (cc := cX11_late) (maxL := 5) (ret := (some .int)) (by decide) rfl ?_
  intro p e s m args below meth c s₁ B hml hv
  obtain ⟨rfl, hsz, hP, hK, hD0, hN, hT⟩ := hv
  have hx := B.exec
  have hb := B.bytes
  have hr := B.returns
  have hts : ∀ w ∈ tblG, w.before _ s = true := fun w h => atoms_spec (ws := (wsG yX11_late cX11_late 5 (some .int))) B.pre w (List.mem_cons_of_mem _ h)
  have hown : s.vm.findClass RX11 = some m.cls := findClass_of_methodNamed B.named
  have hlocks := B.notSynchronized
  subst hsz
  have hD := hD0.self (sz := s.heap.size)
  generalize hAe : va_A [(a0, .inr (11, [.ref a1, .ref a2, .ref a3, .ref a4, .ref a5, .ref a6, .ref a7, .ref a8, .ref a9, .ref a10, .int 0, .int 0, .int (-1), .ref a11, .int 0, .ref a12, .int 0])), (a1, .inr (1, [.long 0, .int 1000, .int (-1), .int (-1), .int 0, .ref a13, .ref a14, .ref a15, .ref a16, .ref a17, .ref a18, .long 0, .ref a19])), (a15, .inr (6, [.int 5, .int 24, .ref a20, .int 0]))] s.heap.size = A at hD hT ⊢
  have hA : ∀ q : Nat, s.heap.size ≤ q → A q := fun q h => by rw [← hAe]; exact Or.inr h
  have hS : va_S A s.heap s.heap [] := va_S.rf
  have hP : va_P G.1 vwCl [(a0, .inr (11, [.ref a1, .ref a2, .ref a3, .ref a4, .ref a5, .ref a6, .ref a7, .ref a8, .ref a9, .ref a10, .int 0, .int 0, .int (-1), .ref a11, .int 0, .ref a12, .int 0])), (a1, .inr (1, [.long 0, .int 1000, .int (-1), .int (-1), .int 0, .ref a13, .ref a14, .ref a15, .ref a16, .ref a17, .ref a18, .long 0, .ref a19])), (a15, .inr (6, [.int 5, .int 24, .ref a20, .int 0]))] s.heap := hP
  have hl := lv_entry ([.ref a0, .int n0, .int n1, .int n2]) (n := 5) (Nat.le_of_ble_eq_true rfl)
  rw [lg_entry_eq]
  generalize (lg_sl ([.ref a0, .int n0, .int n1, .int n2]) ++ List.replicate (5 - (lg_sl ([.ref a0, .int n0, .int n1, .int n2])).length) Slot.unset).toArray = ls at hl ⊢
  have hl : lv_has ls 5 [(0, .ref a0), (1, .int n0), (2, .int n1), (3, .int n2)] := hl
  refine lv_aload_n hx hb dX11_late_0 rfl (lv_at hl 0 rfl) ?_
  refine va_get (D := G.1) (ci := 11) (v := .ref a1) (C := RX11) (T := TX11) (N := 17) hx hb hts inG_X11 hown hK hP 0 rfl rfl 0 (by decide) (hts _ fl_X11_12) (fun _ h9 => h9) rfl dX11_late_1 ?_
  refine va_get (D := G.1) (ci := 1) (v := .ref a15) (C := RX1) (T := TX1) (N := 13) hx hb hts inG_X1 hown hK hP 1 rfl rfl 7 (by decide) (hts _ fl_X11_167) (fun _ h9 => h9) rfl dX11_late_4 ?_
  refine lv_iload_n hx hb dX11_late_7 rfl (lv_at hl 2 rfl) ?_
  have hPc := hP.sub (ws' := [(a15, .inr (6, [.int 5, .int 24, .ref a20, .int 0]))]) [2] rfl
  have hDc := hD.sub (ws' := [(a15, .inr (6, [.int 5, .int 24, .ref a20, .int 0]))]) [2] (by decide) rfl
  have hFc := va_free (wc := [(a15, .inr (6, [.int 5, .int 24, .ref a20, .int 0]))]) hD hS hA [2] rfl
  refine va_calli (va_runV (As := [.int n1]) (rest := []) ⟨hx, hb, hml, hown, hts⟩ (kX6_has_4 l G a15 a20 s.heap.size n1) (cwV 1 hts gV_X11_160 rfl rfl rfl hv_X6_has ⟨Nat.le_of_ble_eq_true rfl, Nat.le_of_ble_eq_true rfl⟩) (g5_preV hPc hK hDc hN hT hS hFc (ci := 6) (q0 := 0) rfl rfl) rfl rfl hl.1 rfl (lv_room (Nat.le_of_ble_eq_true rfl)) dX11_late_8 ⟨Nat.le_of_ble_eq_true rfl, Nat.le_of_ble_eq_true rfl⟩) hS (fun q _ h => hFc q h) hFc (fun r u t H1 locs ht hvm hw hB hz1 hk1 hS => ?_)
  obtain ⟨hP1, hD1⟩ := hB
  rw [ht] at hP1
  rcases hw with ⟨i_1, rfl, rfl⟩ | ⟨i_2, i_3, rfl, rfl⟩
  ·
    obtain ⟨hP, hD⟩ := va_join (wr := [(a0, .inr (11, [.ref a1, .ref a2, .ref a3, .ref a4, .ref a5, .ref a6, .ref a7, .ref a8, .ref a9, .ref a10, .int 0, .int 0, .int (-1), .ref a11, .int 0, .ref a12, .int 0])), (a1, .inr (1, [.long 0, .int 1000, .int (-1), .int (-1), .int 0, .ref a13, .ref a14, .ref a15, .ref a16, .ref a17, .ref a18, .long 0, .ref a19]))]) (w1 := [(a15, .inr (6, [.int 5, .int 24, .ref a20, .int 0]))]) hP hD [2] [0, 1] rfl rfl (by decide) (by decide) hk1 hFc hP1 hD1
    generalize H1 = H at hP hS ⊢
    have hP : va_P G.1 vwCl [(a0, .inr (11, [.ref a1, .ref a2, .ref a3, .ref a4, .ref a5, .ref a6, .ref a7, .ref a8, .ref a9, .ref a10, .int 0, .int 0, .int (-1), .ref a11, .int 0, .ref a12, .int 0])), (a1, .inr (1, [.long 0, .int 1000, .int (-1), .int (-1), .int 0, .ref a13, .ref a14, .ref a15, .ref a16, .ref a17, .ref a18, .long 0, .ref a19])), (a15, .inr (6, [.int 5, .int 24, .ref a20, .int 0]))] H := hP
    have hD : va_D A [(a0, .inr (11, [.ref a1, .ref a2, .ref a3, .ref a4, .ref a5, .ref a6, .ref a7, .ref a8, .ref a9, .ref a10, .int 0, .int 0, .int (-1), .ref a11, .int 0, .ref a12, .int 0])), (a1, .inr (1, [.long 0, .int 1000, .int (-1), .int (-1), .int 0, .ref a13, .ref a14, .ref a15, .ref a16, .ref a17, .ref a18, .long 0, .ref a19])), (a15, .inr (6, [.int 5, .int 24, .ref a20, .int 0]))] := hD
    refine lv_if_ne (tgt := 16) hx hb dX11_late_11 (by decide) (fun c_4 => ?_) (fun c_4 => ?_)
    ·
      exact absurd c_4 (by decide)
    ·
      refine lv_iconst (v := (-1)) hx hb dX11_late_14 (by decide) ?_
      have hP := hP.sub (ws' := []) [] rfl
      have hD := hD.sub (ws' := []) [] (by decide) rfl
      exact W.iret (v := (-1)) hx hb hr (fun t ht hW => ⟨⟨(-1), [], rfl, Or.inl (⟨i_1, rfl, rfl⟩), by rw [ht]; exact hP, hD⟩, hS.F ht⟩) hS.2.2 dX11_late_15
  ·
    obtain ⟨hP, hD⟩ := va_join (wr := [(a0, .inr (11, [.ref a1, .ref a2, .ref a3, .ref a4, .ref a5, .ref a6, .ref a7, .ref a8, .ref a9, .ref a10, .int 0, .int 0, .int (-1), .ref a11, .int 0, .ref a12, .int 0])), (a1, .inr (1, [.long 0, .int 1000, .int (-1), .int (-1), .int 0, .ref a13, .ref a14, .ref a15, .ref a16, .ref a17, .ref a18, .long 0, .ref a19]))]) (w1 := [(a15, .inr (6, [.int 5, .int 24, .ref a20, .int 0]))]) hP hD [2] [0, 1] rfl rfl (by decide) (by decide) hk1 hFc hP1 hD1
    generalize H1 = H at hP hS ⊢
    have hP : va_P G.1 vwCl [(a0, .inr (11, [.ref a1, .ref a2, .ref a3, .ref a4, .ref a5, .ref a6, .ref a7, .ref a8, .ref a9, .ref a10, .int 0, .int 0, .int (-1), .ref a11, .int 0, .ref a12, .int 0])), (a1, .inr (1, [.long 0, .int 1000, .int (-1), .int (-1), .int 0, .ref a13, .ref a14, .ref a15, .ref a16, .ref a17, .ref a18, .long 0, .ref a19])), (a15, .inr (6, [.int 5, .int 24, .ref a20, .int 0]))] H := hP
    have hD : va_D A [(a0, .inr (11, [.ref a1, .ref a2, .ref a3, .ref a4, .ref a5, .ref a6, .ref a7, .ref a8, .ref a9, .ref a10, .int 0, .int 0, .int (-1), .ref a11, .int 0, .ref a12, .int 0])), (a1, .inr (1, [.long 0, .int 1000, .int (-1), .int (-1), .int 0, .ref a13, .ref a14, .ref a15, .ref a16, .ref a17, .ref a18, .long 0, .ref a19])), (a15, .inr (6, [.int 5, .int 24, .ref a20, .int 0]))] := hD
    refine lv_if_ne (tgt := 16) hx hb dX11_late_11 (by decide) (fun c_5 => ?_) (fun c_5 => ?_)
    ·
      exact absurd c_5 (by decide)
    ·
      refine lv_iconst (v := (-1)) hx hb dX11_late_14 (by decide) ?_
      have hP := hP.sub (ws' := []) [] rfl
      have hD := hD.sub (ws' := []) [] (by decide) rfl
      exact W.iret (v := (-1)) hx hb hr (fun t ht hW => ⟨⟨(-1), [], rfl, Or.inr (⟨i_2, i_3, rfl, rfl⟩), by rw [ht]; exact hP, hD⟩, hS.F ht⟩) hS.2.2 dX11_late_15
theorem dX11_first_0 : decode cX11_first 0 = .ok (.aload_n 0, 1) := by decide +kernel
theorem dX11_first_1 : decode cX11_first 1 = .ok (.getfield 12, 3) := by decide +kernel
theorem dX11_first_4 : decode cX11_first 4 = .ok (.getfield 167, 3) := by decide +kernel
theorem dX11_first_7 : decode cX11_first 7 = .ok (.iload_n 1, 1) := by decide +kernel
theorem dX11_first_8 : decode cX11_first 8 = .ok (.invokevirtual 160, 3) := by decide +kernel
theorem dX11_first_11 : decode cX11_first 11 = .ok (.ifCond .eq 12, 3) := by decide +kernel
theorem dX11_first_14 : decode cX11_first 14 = .ok (.iload_n 2, 1) := by decide +kernel
theorem dX11_first_15 : decode cX11_first 15 = .ok (.ifCond .lt 8, 3) := by decide +kernel
theorem dX11_first_18 : decode cX11_first 18 = .ok (.iload_n 2, 1) := by decide +kernel
theorem dX11_first_19 : decode cX11_first 19 = .ok (.iconst 2, 1) := by decide +kernel
theorem dX11_first_20 : decode cX11_first 20 = .ok (.if_icmp .le 5, 3) := by decide +kernel
theorem dX11_first_23 : decode cX11_first 23 = .ok (.iconst (-1), 1) := by decide +kernel
theorem dX11_first_24 : decode cX11_first 24 = .ok (.ireturn, 1) := by decide +kernel
theorem dX11_first_25 : decode cX11_first 25 = .ok (.iconst 0, 1) := by decide +kernel
theorem dX11_first_26 : decode cX11_first 26 = .ok (.istore_n 3, 1) := by decide +kernel
theorem dX11_first_27 : decode cX11_first 27 = .ok (.iload_n 3, 1) := by decide +kernel
theorem dX11_first_28 : decode cX11_first 28 = .ok (.bipush 24, 2) := by decide +kernel
theorem dX11_first_30 : decode cX11_first 30 = .ok (.if_icmp .ge 108, 3) := by decide +kernel
theorem dX11_first_33 : decode cX11_first 33 = .ok (.iconst 0, 1) := by decide +kernel
theorem dX11_first_34 : decode cX11_first 34 = .ok (.istore 4, 2) := by decide +kernel
theorem dX11_first_36 : decode cX11_first 36 = .ok (.iload 4, 2) := by decide +kernel
theorem dX11_first_38 : decode cX11_first 38 = .ok (.aload_n 0, 1) := by decide +kernel
theorem dX11_first_39 : decode cX11_first 39 = .ok (.getfield 12, 3) := by decide +kernel
theorem dX11_first_42 : decode cX11_first 42 = .ok (.getfield 167, 3) := by decide +kernel
theorem dX11_first_45 : decode cX11_first 45 = .ok (.getfield 238, 3) := by decide +kernel
theorem dX11_first_48 : decode cX11_first 48 = .ok (.if_icmp .ge 84, 3) := by decide +kernel
theorem dX11_first_51 : decode cX11_first 51 = .ok (.iload 4, 2) := by decide +kernel
theorem dX11_first_53 : decode cX11_first 53 = .ok (.iload_n 1, 1) := by decide +kernel
theorem dX11_first_54 : decode cX11_first 54 = .ok (.if_icmp .ne 7, 3) := by decide +kernel
theorem dX11_first_57 : decode cX11_first 57 = .ok (.iconst (-1), 1) := by decide +kernel
theorem dX11_first_58 : decode cX11_first 58 = .ok (.goto 16, 3) := by decide +kernel
theorem dX11_first_61 : decode cX11_first 61 = .ok (.aload_n 0, 1) := by decide +kernel
theorem dX11_first_62 : decode cX11_first 62 = .ok (.getfield 12, 3) := by decide +kernel
theorem dX11_first_65 : decode cX11_first 65 = .ok (.getfield 167, 3) := by decide +kernel
theorem dX11_first_68 : decode cX11_first 68 = .ok (.iload 4, 2) := by decide +kernel
theorem dX11_first_70 : decode cX11_first 70 = .ok (.iload_n 3, 1) := by decide +kernel
theorem dX11_first_71 : decode cX11_first 71 = .ok (.invokevirtual 163, 3) := by decide +kernel
theorem dX11_first_74 : decode cX11_first 74 = .ok (.istore 5, 2) := by decide +kernel
theorem dX11_first_76 : decode cX11_first 76 = .ok (.iload 5, 2) := by decide +kernel
theorem dX11_first_78 : decode cX11_first 78 = .ok (.iconst (-1), 1) := by decide +kernel
theorem dX11_first_79 : decode cX11_first 79 = .ok (.if_icmp .ne 7, 3) := by decide +kernel
theorem dX11_first_82 : decode cX11_first 82 = .ok (.iconst (-1), 1) := by decide +kernel
theorem dX11_first_83 : decode cX11_first 83 = .ok (.goto 14, 3) := by decide +kernel
theorem dX11_first_86 : decode cX11_first 86 = .ok (.aload_n 0, 1) := by decide +kernel
theorem dX11_first_87 : decode cX11_first 87 = .ok (.getfield 29, 3) := by decide +kernel
theorem dX11_first_90 : decode cX11_first 90 = .ok (.iload 5, 2) := by decide +kernel
theorem dX11_first_92 : decode cX11_first 92 = .ok (.iload_n 3, 1) := by decide +kernel
theorem dX11_first_93 : decode cX11_first 93 = .ok (.iload_n 1, 1) := by decide +kernel
theorem dX11_first_94 : decode cX11_first 94 = .ok (.invokevirtual 234, 3) := by decide +kernel
theorem dX11_first_97 : decode cX11_first 97 = .ok (.istore 6, 2) := by decide +kernel
theorem dX11_first_99 : decode cX11_first 99 = .ok (.iload 6, 2) := by decide +kernel
theorem dX11_first_101 : decode cX11_first 101 = .ok (.iconst (-1), 1) := by decide +kernel
theorem dX11_first_102 : decode cX11_first 102 = .ok (.if_icmp .eq 24, 3) := by decide +kernel
theorem dX11_first_105 : decode cX11_first 105 = .ok (.iload_n 2, 1) := by decide +kernel
theorem dX11_first_106 : decode cX11_first 106 = .ok (.ifCond .ne 7, 3) := by decide +kernel
theorem dX11_first_109 : decode cX11_first 109 = .ok (.iload_n 3, 1) := by decide +kernel
theorem dX11_first_110 : decode cX11_first 110 = .ok (.goto 15, 3) := by decide +kernel
theorem dX11_first_113 : decode cX11_first 113 = .ok (.iload_n 2, 1) := by decide +kernel
theorem dX11_first_114 : decode cX11_first 114 = .ok (.iconst 1, 1) := by decide +kernel
theorem dX11_first_115 : decode cX11_first 115 = .ok (.if_icmp .ne 8, 3) := by decide +kernel
theorem dX11_first_118 : decode cX11_first 118 = .ok (.iload 4, 2) := by decide +kernel
theorem dX11_first_120 : decode cX11_first 120 = .ok (.goto 5, 3) := by decide +kernel
theorem dX11_first_123 : decode cX11_first 123 = .ok (.iload 6, 2) := by decide +kernel
theorem dX11_first_125 : decode cX11_first 125 = .ok (.ireturn, 1) := by decide +kernel
theorem dX11_first_126 : decode cX11_first 126 = .ok (.iinc 4 1, 3) := by decide +kernel
theorem dX11_first_129 : decode cX11_first 129 = .ok (.goto (-93), 3) := by decide +kernel
theorem dX11_first_132 : decode cX11_first 132 = .ok (.iinc 3 1, 3) := by decide +kernel
theorem dX11_first_135 : decode cX11_first 135 = .ok (.goto (-108), 3) := by decide +kernel
theorem dX11_first_138 : decode cX11_first 138 = .ok (.iconst (-1), 1) := by decide +kernel
theorem dX11_first_139 : decode cX11_first 139 = .ok (.ireturn, 1) := by decide +kernel
set_option maxHeartbeats 4000000 in
set_option maxRecDepth 100000 in
theorem kX11_first (l : Launch) (G : g5_G) (a0 a1 a2 a3 a4 a5 a6 a7 a8 a9 a10 a11 a12 a13 a14 a15 a16 a17 a18 a19 a20 : Nat) (sz : Nat) (n0 : Int32) (n1 : Int32) : Met l yX11_first (wsG yX11_first cX11_first 7 (some .int)) ({ frames := 1, cells := 0, slots := 0, locals := 21 }) (va_Pc [.ref a0, .int n0, .int n1] (g5_P G [(a0, .inr (11, [.ref a1, .ref a2, .ref a3, .ref a4, .ref a5, .ref a6, .ref a7, .ref a8, .ref a9, .ref a10, .int 0, .int 0, .int (-1), .ref a11, .int 0, .ref a12, .int 0])), (a1, .inr (1, [.long 0, .int 1000, .int (-1), .int (-1), .int 0, .ref a13, .ref a14, .ref a15, .ref a16, .ref a17, .ref a18, .long 0, .ref a19])), (a15, .inr (6, [.int 5, .int 24, .ref a20, .int 0]))] sz)) (va_Qi (fun (r : Int32) (u : va_W) => ((n0.toInt < 0) ∧ (r = (-1)) ∧ (u = [])) ∨ ((n0.toInt ≥ 0) ∧ (n0.toInt ≥ 0) ∧ (r = (-1)) ∧ (u = []))) (g5_B G (va_A [(a0, .inr (11, [.ref a1, .ref a2, .ref a3, .ref a4, .ref a5, .ref a6, .ref a7, .ref a8, .ref a9, .ref a10, .int 0, .int 0, .int (-1), .ref a11, .int 0, .ref a12, .int 0])), (a1, .inr (1, [.long 0, .int 1000, .int (-1), .int (-1), .int 0, .ref a13, .ref a14, .ref a15, .ref a16, .ref a17, .ref a18, .long 0, .ref a19])), (a15, .inr (6, [.int 5, .int 24, .ref a20, .int 0]))] sz)) (va_A [(a0, .inr (11, [.ref a1, .ref a2, .ref a3, .ref a4, .ref a5, .ref a6, .ref a7, .ref a8, .ref a9, .ref a10, .int 0, .int 0, .int (-1), .ref a11, .int 0, .ref a12, .int 0])), (a1, .inr (1, [.long 0, .int 1000, .int (-1), .int (-1), .int 0, .ref a13, .ref a14, .ref a15, .ref a16, .ref a17, .ref a18, .long 0, .ref a19])), (a15, .inr (6, [.int 5, .int 24, .ref a20, .int 0]))] sz)) 0 0 (va_A [(a0, .inr (11, [.ref a1, .ref a2, .ref a3, .ref a4, .ref a5, .ref a6, .ref a7, .ref a8, .ref a9, .ref a10, .int 0, .int 0, .int (-1), .ref a11, .int 0, .ref a12, .int 0])), (a1, .inr (1, [.long 0, .int 1000, .int (-1), .int (-1), .int 0, .ref a13, .ref a14, .ref a15, .ref a16, .ref a17, .ref a18, .long 0, .ref a19])), (a15, .inr (6, [.int 5, .int 24, .ref a20, .int 0]))] sz) := by
  refine Met.ofW (cc := cX11_first) (maxL := 7) (ret := (some .int)) (by decide) rfl ?_
  intro p e s m args below meth c s₁ B hml hv
  obtain ⟨rfl, hsz, hP, hK, hD0, hN, hT⟩ := hv
  have hx := B.exec
  have hb := B.bytes
  have hr := B.returns
  have hts : ∀ w ∈ tblG, w.before _ s = true := fun w h => atoms_spec (ws := (wsG yX11_first cX11_first 7 (some .int))) B.pre w (List.mem_cons_of_mem _ h)
  have hown : s.vm.findClass RX11 = some m.cls := findClass_of_methodNamed B.named
  have hlocks := B.notSynchronized
  subst hsz
  have hD := hD0.self (sz := s.heap.size)
  generalize hAe : va_A [(a0, .inr (11, [.ref a1, .ref a2, .ref a3, .ref a4, .ref a5, .ref a6, .ref a7, .ref a8, .ref a9, .ref a10, .int 0, .int 0, .int (-1), .ref a11, .int 0, .ref a12, .int 0])), (a1, .inr (1, [.long 0, .int 1000, .int (-1), .int (-1), .int 0, .ref a13, .ref a14, .ref a15, .ref a16, .ref a17, .ref a18, .long 0, .ref a19])), (a15, .inr (6, [.int 5, .int 24, .ref a20, .int 0]))] s.heap.size = A at hD hT ⊢
  have hA : ∀ q : Nat, s.heap.size ≤ q → A q := fun q h => by rw [← hAe]; exact Or.inr h
  have hS : va_S A s.heap s.heap [] := va_S.rf
  have hP : va_P G.1 vwCl [(a0, .inr (11, [.ref a1, .ref a2, .ref a3, .ref a4, .ref a5, .ref a6, .ref a7, .ref a8, .ref a9, .ref a10, .int 0, .int 0, .int (-1), .ref a11, .int 0, .ref a12, .int 0])), (a1, .inr (1, [.long 0, .int 1000, .int (-1), .int (-1), .int 0, .ref a13, .ref a14, .ref a15, .ref a16, .ref a17, .ref a18, .long 0, .ref a19])), (a15, .inr (6, [.int 5, .int 24, .ref a20, .int 0]))] s.heap := hP
  have hl := lv_entry ([.ref a0, .int n0, .int n1]) (n := 7) (Nat.le_of_ble_eq_true rfl)
  rw [lg_entry_eq]
  generalize (lg_sl ([.ref a0, .int n0, .int n1]) ++ List.replicate (7 - (lg_sl ([.ref a0, .int n0, .int n1])).length) Slot.unset).toArray = ls at hl ⊢
  have hl : lv_has ls 7 [(0, .ref a0), (1, .int n0), (2, .int n1)] := hl
  refine lv_aload_n hx hb dX11_first_0 rfl (lv_at hl 0 rfl) ?_
  refine va_get (D := G.1) (ci := 11) (v := .ref a1) (C := RX11) (T := TX11) (N := 17) hx hb hts inG_X11 hown hK hP 0 rfl rfl 0 (by decide) (hts _ fl_X11_12) (fun _ h9 => h9) rfl dX11_first_1 ?_
  refine va_get (D := G.1) (ci := 1) (v := .ref a15) (C := RX1) (T := TX1) (N := 13) hx hb hts inG_X1 hown hK hP 1 rfl rfl 7 (by decide) (hts _ fl_X11_167) (fun _ h9 => h9) rfl dX11_first_4 ?_
  refine lv_iload_n hx hb dX11_first_7 rfl (lv_at hl 1 rfl) ?_
  have hPc := hP.sub (ws' := [(a15, .inr (6, [.int 5, .int 24, .ref a20, .int 0]))]) [2] rfl
  have hDc := hD.sub (ws' := [(a15, .inr (6, [.int 5, .int 24, .ref a20, .int 0]))]) [2] (by decide) rfl
  have hFc := va_free (wc := [(a15, .inr (6, [.int 5, .int 24, .ref a20, .int 0]))]) hD hS hA [2] rfl
  refine va_calli (va_runV (As := [.int n0]) (rest := []) ⟨hx, hb, hml, hown, hts⟩ (kX6_has_4 l G a15 a20 s.heap.size n0) (cwV 1 hts gV_X11_160 rfl rfl rfl hv_X6_has ⟨Nat.le_of_ble_eq_true rfl, Nat.le_of_ble_eq_true rfl⟩) (g5_preV hPc hK hDc hN hT hS hFc (ci := 6) (q0 := 0) rfl rfl) rfl rfl hl.1 rfl (lv_room (Nat.le_of_ble_eq_true rfl)) dX11_first_8 ⟨Nat.le_of_ble_eq_true rfl, Nat.le_of_ble_eq_true rfl⟩) hS (fun q _ h => hFc q h) hFc (fun r u t H1 locs ht hvm hw hB hz1 hk1 hS => ?_)
  obtain ⟨hP1, hD1⟩ := hB
  rw [ht] at hP1
  rcases hw with ⟨i_1, rfl, rfl⟩ | ⟨i_2, i_3, rfl, rfl⟩
  ·
    obtain ⟨hP, hD⟩ := va_join (wr := [(a0, .inr (11, [.ref a1, .ref a2, .ref a3, .ref a4, .ref a5, .ref a6, .ref a7, .ref a8, .ref a9, .ref a10, .int 0, .int 0, .int (-1), .ref a11, .int 0, .ref a12, .int 0])), (a1, .inr (1, [.long 0, .int 1000, .int (-1), .int (-1), .int 0, .ref a13, .ref a14, .ref a15, .ref a16, .ref a17, .ref a18, .long 0, .ref a19]))]) (w1 := [(a15, .inr (6, [.int 5, .int 24, .ref a20, .int 0]))]) hP hD [2] [0, 1] rfl rfl (by decide) (by decide) hk1 hFc hP1 hD1
    generalize H1 = H at hP hS ⊢
    have hP : va_P G.1 vwCl [(a0, .inr (11, [.ref a1, .ref a2, .ref a3, .ref a4, .ref a5, .ref a6, .ref a7, .ref a8, .ref a9, .ref a10, .int 0, .int 0, .int (-1), .ref a11, .int 0, .ref a12, .int 0])), (a1, .inr (1, [.long 0, .int 1000, .int (-1), .int (-1), .int 0, .ref a13, .ref a14, .ref a15, .ref a16, .ref a17, .ref a18, .long 0, .ref a19])), (a15, .inr (6, [.int 5, .int 24, .ref a20, .int 0]))] H := hP
    have hD : va_D A [(a0, .inr (11, [.ref a1, .ref a2, .ref a3, .ref a4, .ref a5, .ref a6, .ref a7, .ref a8, .ref a9, .ref a10, .int 0, .int 0, .int (-1), .ref a11, .int 0, .ref a12, .int 0])), (a1, .inr (1, [.long 0, .int 1000, .int (-1), .int (-1), .int 0, .ref a13, .ref a14, .ref a15, .ref a16, .ref a17, .ref a18, .long 0, .ref a19])), (a15, .inr (6, [.int 5, .int 24, .ref a20, .int 0]))] := hD
    refine lv_if_eq (tgt := 23) hx hb dX11_first_11 (by decide) (fun c_4 => ?_) (fun c_4 => ?_)
    ·
      refine lv_iconst (v := (-1)) hx hb dX11_first_23 (by decide) ?_
      have hP := hP.sub (ws' := []) [] rfl
      have hD := hD.sub (ws' := []) [] (by decide) rfl
      exact W.iret (v := (-1)) hx hb hr (fun t ht hW => ⟨⟨(-1), [], rfl, Or.inl (⟨i_1, rfl, rfl⟩), by rw [ht]; exact hP, hD⟩, hS.F ht⟩) hS.2.2 dX11_first_24
    ·
      exact absurd c_4 (by decide)
  ·
    obtain ⟨hP, hD⟩ := va_join (wr := [(a0, .inr (11, [.ref a1, .ref a2, .ref a3, .ref a4, .ref a5, .ref a6, .ref a7, .ref a8, .ref a9, .ref a10, .int 0, .int 0, .int (-1), .ref a11, .int 0, .ref a12, .int 0])), (a1, .inr (1, [.long 0, .int 1000, .int (-1), .int (-1), .int 0, .ref a13, .ref a14, .ref a15, .ref a16, .ref a17, .ref a18, .long 0, .ref a19]))]) (w1 := [(a15, .inr (6, [.int 5, .int 24, .ref a20, .int 0]))]) hP hD [2] [0, 1] rfl rfl (by decide) (by decide) hk1 hFc hP1 hD1
    generalize H1 = H at hP hS ⊢
    have hP : va_P G.1 vwCl [(a0, .inr (11, [.ref a1, .ref a2, .ref a3, .ref a4, .ref a5, .ref a6, .ref a7, .ref a8, .ref a9, .ref a10, .int 0, .int 0, .int (-1), .ref a11, .int 0, .ref a12, .int 0])), (a1, .inr (1, [.long 0, .int 1000, .int (-1), .int (-1), .int 0, .ref a13, .ref a14, .ref a15, .ref a16, .ref a17, .ref a18, .long 0, .ref a19])), (a15, .inr (6, [.int 5, .int 24, .ref a20, .int 0]))] H := hP
    have hD : va_D A [(a0, .inr (11, [.ref a1, .ref a2, .ref a3, .ref a4, .ref a5, .ref a6, .ref a7, .ref a8, .ref a9, .ref a10, .int 0, .int 0, .int (-1), .ref a11, .int 0, .ref a12, .int 0])), (a1, .inr (1, [.long 0, .int 1000, .int (-1), .int (-1), .int 0, .ref a13, .ref a14, .ref a15, .ref a16, .ref a17, .ref a18, .long 0, .ref a19])), (a15, .inr (6, [.int 5, .int 24, .ref a20, .int 0]))] := hD
    refine lv_if_eq (tgt := 23) hx hb dX11_first_11 (by decide) (fun c_5 => ?_) (fun c_5 => ?_)
    ·
      refine lv_iconst (v := (-1)) hx hb dX11_first_23 (by decide) ?_
      have hP := hP.sub (ws' := []) [] rfl
      have hD := hD.sub (ws' := []) [] (by decide) rfl
      exact W.iret (v := (-1)) hx hb hr (fun t ht hW => ⟨⟨(-1), [], rfl, Or.inr (⟨i_2, i_3, rfl, rfl⟩), by rw [ht]; exact hP, hD⟩, hS.F ht⟩) hS.2.2 dX11_first_24
    ·
      exact absurd c_5 (by decide)
theorem ml_X11_244 : Cond.methodLink RX11 244 yX5_cellsFrom ∈ tblG := tg 899 (by decide +kernel) (by decide +kernel)
theorem im_X5_cellsFrom : Cond.instanceMethod yX5_cellsFrom ∈ tblG := tg 900 (by decide +kernel) (by decide +kernel)
theorem se_X5_cellsFrom : Cond.selects RX5 yX5_cellsFrom yX5_cellsFrom ∈ tblG := tg 901 (by decide +kernel) (by decide +kernel)
theorem cd_X5_cellsFrom : Cond.code yX5_cellsFrom cX5_cellsFrom 7 (some .long) ∈ tblG := tg 902 (by decide +kernel) (by decide +kernel)
theorem gW_X5_cellsFrom : GoodIn tblG (wsG yX5_cellsFrom cX5_cellsFrom 7 (some .long)) := tgi cd_X5_cellsFrom
theorem gV_X11_244 : GoodIn tblG (wsV RX11 244 RX5 yX5_cellsFrom (wsG yX5_cellsFrom cX5_cellsFrom 7 (some .long))) := tgV ml_X11_244 im_X5_cellsFrom se_X5_cellsFrom ini_X5 gW_X5_cellsFrom
theorem hv_X5_cellsFrom : yX5_cellsFrom.cls = RX5 ∧ yX5_cellsFrom.cls ≠ "java/lang/invoke/MethodHandle" ∧ yX5_cellsFrom.cls ≠ "java/lang/invoke/VarHandle" ∧ (parseMethodDescriptor yX5_cellsFrom.desc).map (fun d => d.parameters.length) = some 2 := by decide +kernel
theorem kl_J13_314 : Cond.constantLong RJ13 314 6148914691236517205 ∈ tblG := tg 906 (by decide +kernel) (by decide +kernel)
theorem kl_J13_316 : Cond.constantLong RJ13 316 3689348814741910323 ∈ tblG := tg 907 (by decide +kernel) (by decide +kernel)
theorem kl_J13_318 : Cond.constantLong RJ13 318 1085102592571150095 ∈ tblG := tg 908 (by decide +kernel) (by decide +kernel)
theorem dJ13_bitCount_95d88_0 : decode cJ13_bitCount_95d88 0 = .ok (.lload_n 0, 1) := by decide +kernel
theorem dJ13_bitCount_95d88_1 : decode cJ13_bitCount_95d88 1 = .ok (.lload_n 0, 1) := by decide +kernel
theorem dJ13_bitCount_95d88_2 : decode cJ13_bitCount_95d88 2 = .ok (.iconst 1, 1) := by decide +kernel
theorem dJ13_bitCount_95d88_3 : decode cJ13_bitCount_95d88 3 = .ok (.lushr, 1) := by decide +kernel
theorem dJ13_bitCount_95d88_4 : decode cJ13_bitCount_95d88 4 = .ok (.ldc2_w 314, 3) := by decide +kernel
theorem dJ13_bitCount_95d88_7 : decode cJ13_bitCount_95d88 7 = .ok (.land, 1) := by decide +kernel
theorem dJ13_bitCount_95d88_8 : decode cJ13_bitCount_95d88 8 = .ok (.lsub, 1) := by decide +kernel
theorem dJ13_bitCount_95d88_9 : decode cJ13_bitCount_95d88 9 = .ok (.lstore_n 0, 1) := by decide +kernel
theorem dJ13_bitCount_95d88_10 : decode cJ13_bitCount_95d88 10 = .ok (.lload_n 0, 1) := by decide +kernel
theorem dJ13_bitCount_95d88_11 : decode cJ13_bitCount_95d88 11 = .ok (.ldc2_w 316, 3) := by decide +kernel
theorem dJ13_bitCount_95d88_14 : decode cJ13_bitCount_95d88 14 = .ok (.land, 1) := by decide +kernel
theorem dJ13_bitCount_95d88_15 : decode cJ13_bitCount_95d88 15 = .ok (.lload_n 0, 1) := by decide +kernel
theorem dJ13_bitCount_95d88_16 : decode cJ13_bitCount_95d88 16 = .ok (.iconst 2, 1) := by decide +kernel
theorem dJ13_bitCount_95d88_17 : decode cJ13_bitCount_95d88 17 = .ok (.lushr, 1) := by decide +kernel
theorem dJ13_bitCount_95d88_18 : decode cJ13_bitCount_95d88 18 = .ok (.ldc2_w 316, 3) := by decide +kernel
theorem dJ13_bitCount_95d88_21 : decode cJ13_bitCount_95d88 21 = .ok (.land, 1) := by decide +kernel
theorem dJ13_bitCount_95d88_22 : decode cJ13_bitCount_95d88 22 = .ok (.ladd, 1) := by decide +kernel
theorem dJ13_bitCount_95d88_23 : decode cJ13_bitCount_95d88 23 = .ok (.lstore_n 0, 1) := by decide +kernel
theorem dJ13_bitCount_95d88_24 : decode cJ13_bitCount_95d88 24 = .ok (.lload_n 0, 1) := by decide +kernel
theorem dJ13_bitCount_95d88_25 : decode cJ13_bitCount_95d88 25 = .ok (.lload_n 0, 1) := by decide +kernel
theorem dJ13_bitCount_95d88_26 : decode cJ13_bitCount_95d88 26 = .ok (.iconst 4, 1) := by decide +kernel
theorem dJ13_bitCount_95d88_27 : decode cJ13_bitCount_95d88 27 = .ok (.lushr, 1) := by decide +kernel
theorem dJ13_bitCount_95d88_28 : decode cJ13_bitCount_95d88 28 = .ok (.ladd, 1) := by decide +kernel
theorem dJ13_bitCount_95d88_29 : decode cJ13_bitCount_95d88 29 = .ok (.ldc2_w 318, 3) := by decide +kernel
theorem dJ13_bitCount_95d88_32 : decode cJ13_bitCount_95d88 32 = .ok (.land, 1) := by decide +kernel
theorem dJ13_bitCount_95d88_33 : decode cJ13_bitCount_95d88 33 = .ok (.lstore_n 0, 1) := by decide +kernel
theorem dJ13_bitCount_95d88_34 : decode cJ13_bitCount_95d88 34 = .ok (.lload_n 0, 1) := by decide +kernel
theorem dJ13_bitCount_95d88_35 : decode cJ13_bitCount_95d88 35 = .ok (.lload_n 0, 1) := by decide +kernel
theorem dJ13_bitCount_95d88_36 : decode cJ13_bitCount_95d88 36 = .ok (.bipush 8, 2) := by decide +kernel
theorem dJ13_bitCount_95d88_38 : decode cJ13_bitCount_95d88 38 = .ok (.lushr, 1) := by decide +kernel
theorem dJ13_bitCount_95d88_39 : decode cJ13_bitCount_95d88 39 = .ok (.ladd, 1) := by decide +kernel
theorem dJ13_bitCount_95d88_40 : decode cJ13_bitCount_95d88 40 = .ok (.lstore_n 0, 1) := by decide +kernel
theorem dJ13_bitCount_95d88_41 : decode cJ13_bitCount_95d88 41 = .ok (.lload_n 0, 1) := by decide +kernel
theorem dJ13_bitCount_95d88_42 : decode cJ13_bitCount_95d88 42 = .ok (.lload_n 0, 1) := by decide +kernel
theorem dJ13_bitCount_95d88_43 : decode cJ13_bitCount_95d88 43 = .ok (.bipush 16, 2) := by decide +kernel
theorem dJ13_bitCount_95d88_45 : decode cJ13_bitCount_95d88 45 = .ok (.lushr, 1) := by decide +kernel
theorem dJ13_bitCount_95d88_46 : decode cJ13_bitCount_95d88 46 = .ok (.ladd, 1) := by decide +kernel
theorem dJ13_bitCount_95d88_47 : decode cJ13_bitCount_95d88 47 = .ok (.lstore_n 0, 1) := by decide +kernel
theorem dJ13_bitCount_95d88_48 : decode cJ13_bitCount_95d88 48 = .ok (.lload_n 0, 1) := by decide +kernel
theorem dJ13_bitCount_95d88_49 : decode cJ13_bitCount_95d88 49 = .ok (.lload_n 0, 1) := by decide +kernel
theorem dJ13_bitCount_95d88_50 : decode cJ13_bitCount_95d88 50 = .ok (.bipush 32, 2) := by decide +kernel
theorem dJ13_bitCount_95d88_52 : decode cJ13_bitCount_95d88 52 = .ok (.lushr, 1) := by decide +kernel
theorem dJ13_bitCount_95d88_53 : decode cJ13_bitCount_95d88 53 = .ok (.ladd, 1) := by decide +kernel
theorem dJ13_bitCount_95d88_54 : decode cJ13_bitCount_95d88 54 = .ok (.lstore_n 0, 1) := by decide +kernel
theorem dJ13_bitCount_95d88_55 : decode cJ13_bitCount_95d88 55 = .ok (.lload_n 0, 1) := by decide +kernel
theorem dJ13_bitCount_95d88_56 : decode cJ13_bitCount_95d88 56 = .ok (.l2i, 1) := by decide +kernel
theorem dJ13_bitCount_95d88_57 : decode cJ13_bitCount_95d88 57 = .ok (.bipush 127, 2) := by decide +kernel
theorem dJ13_bitCount_95d88_59 : decode cJ13_bitCount_95d88 59 = .ok (.iand, 1) := by decide +kernel
theorem dJ13_bitCount_95d88_60 : decode cJ13_bitCount_95d88 60 = .ok (.ireturn, 1) := by decide +kernel
set_option maxHeartbeats 4000000 in
set_option maxRecDepth 100000 in
theorem kJ13_bitCount_95d88 (l : Launch) (G : g5_G) (sz : Nat) (w0 : Int64) : Met l yJ13_bitCount_95d88 (wsG yJ13_bitCount_95d88 cJ13_bitCount_95d88 2 (some .int)) ({ frames := 0, cells := 0, slots := 0, locals := 0 }) (va_Pc [.long w0] (g5_P G [] sz)) (va_Qi (fun (r : Int32) (u : va_W) => ((r = ((((((((((w0 - (((w0.toUInt64 >>> ((1 : Int32).toInt64.toUInt64 &&& Int64.toUInt64 63)).toInt64) &&& 6148914691236517205)) &&& 3689348814741910323) + ((((w0 - (((w0.toUInt64 >>> ((1 : Int32).toInt64.toUInt64 &&& Int64.toUInt64 63)).toInt64) &&& 6148914691236517205)).toUInt64 >>> ((2 : Int32).toInt64.toUInt64 &&& Int64.toUInt64 63)).toInt64) &&& 3689348814741910323)) + (((((w0 - (((w0.toUInt64 >>> ((1 : Int32).toInt64.toUInt64 &&& Int64.toUInt64 63)).toInt64) &&& 6148914691236517205)) &&& 3689348814741910323) + ((((w0 - (((w0.toUInt64 >>> ((1 : Int32).toInt64.toUInt64 &&& Int64.toUInt64 63)).toInt64) &&& 6148914691236517205)).toUInt64 >>> ((2 : Int32).toInt64.toUInt64 &&& Int64.toUInt64 63)).toInt64) &&& 3689348814741910323)).toUInt64 >>> ((4 : Int32).toInt64.toUInt64 &&& Int64.toUInt64 63)).toInt64)) &&& 1085102592571150095) + (((((((w0 - (((w0.toUInt64 >>> ((1 : Int32).toInt64.toUInt64 &&& Int64.toUInt64 63)).toInt64) &&& 6148914691236517205)) &&& 3689348814741910323) + ((((w0 - (((w0.toUInt64 >>> ((1 : Int32).toInt64.toUInt64 &&& Int64.toUInt64 63)).toInt64) &&& 6148914691236517205)).toUInt64 >>> ((2 : Int32).toInt64.toUInt64 &&& Int64.toUInt64 63)).toInt64) &&& 3689348814741910323)) + (((((w0 - (((w0.toUInt64 >>> ((1 : Int32).toInt64.toUInt64 &&& Int64.toUInt64 63)).toInt64) &&& 6148914691236517205)) &&& 3689348814741910323) + ((((w0 - (((w0.toUInt64 >>> ((1 : Int32).toInt64.toUInt64 &&& Int64.toUInt64 63)).toInt64) &&& 6148914691236517205)).toUInt64 >>> ((2 : Int32).toInt64.toUInt64 &&& Int64.toUInt64 63)).toInt64) &&& 3689348814741910323)).toUInt64 >>> ((4 : Int32).toInt64.toUInt64 &&& Int64.toUInt64 63)).toInt64)) &&& 1085102592571150095).toUInt64 >>> ((8 : Int32).toInt64.toUInt64 &&& Int64.toUInt64 63)).toInt64)) + ((((((((w0 - (((w0.toUInt64 >>> ((1 : Int32).toInt64.toUInt64 &&& Int64.toUInt64 63)).toInt64) &&& 6148914691236517205)) &&& 3689348814741910323) + ((((w0 - (((w0.toUInt64 >>> ((1 : Int32).toInt64.toUInt64 &&& Int64.toUInt64 63)).toInt64) &&& 6148914691236517205)).toUInt64 >>> ((2 : Int32).toInt64.toUInt64 &&& Int64.toUInt64 63)).toInt64) &&& 3689348814741910323)) + (((((w0 - (((w0.toUInt64 >>> ((1 : Int32).toInt64.toUInt64 &&& Int64.toUInt64 63)).toInt64) &&& 6148914691236517205)) &&& 3689348814741910323) + ((((w0 - (((w0.toUInt64 >>> ((1 : Int32).toInt64.toUInt64 &&& Int64.toUInt64 63)).toInt64) &&& 6148914691236517205)).toUInt64 >>> ((2 : Int32).toInt64.toUInt64 &&& Int64.toUInt64 63)).toInt64) &&& 3689348814741910323)).toUInt64 >>> ((4 : Int32).toInt64.toUInt64 &&& Int64.toUInt64 63)).toInt64)) &&& 1085102592571150095) + (((((((w0 - (((w0.toUInt64 >>> ((1 : Int32).toInt64.toUInt64 &&& Int64.toUInt64 63)).toInt64) &&& 6148914691236517205)) &&& 3689348814741910323) + ((((w0 - (((w0.toUInt64 >>> ((1 : Int32).toInt64.toUInt64 &&& Int64.toUInt64 63)).toInt64) &&& 6148914691236517205)).toUInt64 >>> ((2 : Int32).toInt64.toUInt64 &&& Int64.toUInt64 63)).toInt64) &&& 3689348814741910323)) + (((((w0 - (((w0.toUInt64 >>> ((1 : Int32).toInt64.toUInt64 &&& Int64.toUInt64 63)).toInt64) &&& 6148914691236517205)) &&& 3689348814741910323) + ((((w0 - (((w0.toUInt64 >>> ((1 : Int32).toInt64.toUInt64 &&& Int64.toUInt64 63)).toInt64) &&& 6148914691236517205)).toUInt64 >>> ((2 : Int32).toInt64.toUInt64 &&& Int64.toUInt64 63)).toInt64) &&& 3689348814741910323)).toUInt64 >>> ((4 : Int32).toInt64.toUInt64 &&& Int64.toUInt64 63)).toInt64)) &&& 1085102592571150095).toUInt64 >>> ((8 : Int32).toInt64.toUInt64 &&& Int64.toUInt64 63)).toInt64)).toUInt64 >>> ((16 : Int32).toInt64.toUInt64 &&& Int64.toUInt64 63)).toInt64)) + (((((((((w0 - (((w0.toUInt64 >>> ((1 : Int32).toInt64.toUInt64 &&& Int64.toUInt64 63)).toInt64) &&& 6148914691236517205)) &&& 3689348814741910323) + ((((w0 - (((w0.toUInt64 >>> ((1 : Int32).toInt64.toUInt64 &&& Int64.toUInt64 63)).toInt64) &&& 6148914691236517205)).toUInt64 >>> ((2 : Int32).toInt64.toUInt64 &&& Int64.toUInt64 63)).toInt64) &&& 3689348814741910323)) + (((((w0 - (((w0.toUInt64 >>> ((1 : Int32).toInt64.toUInt64 &&& Int64.toUInt64 63)).toInt64) &&& 6148914691236517205)) &&& 3689348814741910323) + ((((w0 - (((w0.toUInt64 >>> ((1 : Int32).toInt64.toUInt64 &&& Int64.toUInt64 63)).toInt64) &&& 6148914691236517205)).toUInt64 >>> ((2 : Int32).toInt64.toUInt64 &&& Int64.toUInt64 63)).toInt64) &&& 3689348814741910323)).toUInt64 >>> ((4 : Int32).toInt64.toUInt64 &&& Int64.toUInt64 63)).toInt64)) &&& 1085102592571150095) + (((((((w0 - (((w0.toUInt64 >>> ((1 : Int32).toInt64.toUInt64 &&& Int64.toUInt64 63)).toInt64) &&& 6148914691236517205)) &&& 3689348814741910323) + ((((w0 - (((w0.toUInt64 >>> ((1 : Int32).toInt64.toUInt64 &&& Int64.toUInt64 63)).toInt64) &&& 6148914691236517205)).toUInt64 >>> ((2 : Int32).toInt64.toUInt64 &&& Int64.toUInt64 63)).toInt64) &&& 3689348814741910323)) + (((((w0 - (((w0.toUInt64 >>> ((1 : Int32).toInt64.toUInt64 &&& Int64.toUInt64 63)).toInt64) &&& 6148914691236517205)) &&& 3689348814741910323) + ((((w0 - (((w0.toUInt64 >>> ((1 : Int32).toInt64.toUInt64 &&& Int64.toUInt64 63)).toInt64) &&& 6148914691236517205)).toUInt64 >>> ((2 : Int32).toInt64.toUInt64 &&& Int64.toUInt64 63)).toInt64) &&& 3689348814741910323)).toUInt64 >>> ((4 : Int32).toInt64.toUInt64 &&& Int64.toUInt64 63)).toInt64)) &&& 1085102592571150095).toUInt64 >>> ((8 : Int32).toInt64.toUInt64 &&& Int64.toUInt64 63)).toInt64)) + ((((((((w0 - (((w0.toUInt64 >>> ((1 : Int32).toInt64.toUInt64 &&& Int64.toUInt64 63)).toInt64) &&& 6148914691236517205)) &&& 3689348814741910323) + ((((w0 - (((w0.toUInt64 >>> ((1 : Int32).toInt64.toUInt64 &&& Int64.toUInt64 63)).toInt64) &&& 6148914691236517205)).toUInt64 >>> ((2 : Int32).toInt64.toUInt64 &&& Int64.toUInt64 63)).toInt64) &&& 3689348814741910323)) + (((((w0 - (((w0.toUInt64 >>> ((1 : Int32).toInt64.toUInt64 &&& Int64.toUInt64 63)).toInt64) &&& 6148914691236517205)) &&& 3689348814741910323) + ((((w0 - (((w0.toUInt64 >>> ((1 : Int32).toInt64.toUInt64 &&& Int64.toUInt64 63)).toInt64) &&& 6148914691236517205)).toUInt64 >>> ((2 : Int32).toInt64.toUInt64 &&& Int64.toUInt64 63)).toInt64) &&& 3689348814741910323)).toUInt64 >>> ((4 : Int32).toInt64.toUInt64 &&& Int64.toUInt64 63)).toInt64)) &&& 1085102592571150095) + (((((((w0 - (((w0.toUInt64 >>> ((1 : Int32).toInt64.toUInt64 &&& Int64.toUInt64 63)).toInt64) &&& 6148914691236517205)) &&& 3689348814741910323) + ((((w0 - (((w0.toUInt64 >>> ((1 : Int32).toInt64.toUInt64 &&& Int64.toUInt64 63)).toInt64) &&& 6148914691236517205)).toUInt64 >>> ((2 : Int32).toInt64.toUInt64 &&& Int64.toUInt64 63)).toInt64) &&& 3689348814741910323)) + (((((w0 - (((w0.toUInt64 >>> ((1 : Int32).toInt64.toUInt64 &&& Int64.toUInt64 63)).toInt64) &&& 6148914691236517205)) &&& 3689348814741910323) + ((((w0 - (((w0.toUInt64 >>> ((1 : Int32).toInt64.toUInt64 &&& Int64.toUInt64 63)).toInt64) &&& 6148914691236517205)).toUInt64 >>> ((2 : Int32).toInt64.toUInt64 &&& Int64.toUInt64 63)).toInt64) &&& 3689348814741910323)).toUInt64 >>> ((4 : Int32).toInt64.toUInt64 &&& Int64.toUInt64 63)).toInt64)) &&& 1085102592571150095).toUInt64 >>> ((8 : Int32).toInt64.toUInt64 &&& Int64.toUInt64 63)).toInt64)).toUInt64 >>> ((16 : Int32).toInt64.toUInt64 &&& Int64.toUInt64 63)).toInt64)).toUInt64 >>> ((32 : Int32).toInt64.toUInt64 &&& Int64.toUInt64 63)).toInt64)).toInt32) &&& 127)) ∧ (u = []))) (g5_B G (va_A [] sz)) (va_A [] sz)) 0 0 (va_A [] sz) := by
  refine Met.ofW (cc := cJ13_bitCount_95d88) (maxL := 2) (ret := (some .int)) (by decide) rfl ?_
  intro p e s m args below meth c s₁ B hml hv
  obtain ⟨rfl, hsz, hP, hK, hD0, hN, hT⟩ := hv
  have hx := B.exec
  have hb := B.bytes
  have hr := B.returns
  have hts : ∀ w ∈ tblG, w.before _ s = true := fun w h => atoms_spec (ws := (wsG yJ13_bitCount_95d88 cJ13_bitCount_95d88 2 (some .int))) B.pre w (List.mem_cons_of_mem _ h)
  have hown : s.vm.findClass RJ13 = some m.cls := findClass_of_methodNamed B.named
  have hlocks := B.notSynchronized
  subst hsz
  have hD := hD0.self (sz := s.heap.size)
  generalize hAe : va_A [] s.heap.size = A at hD hT ⊢
  have hA : ∀ q : Nat, s.heap.size ≤ q → A q := fun q h => by rw [← hAe]; exact Or.inr h
  have hS : va_S A s.heap s.heap [] := va_S.rf
  have hP : va_P G.1 vwCl [] s.heap := hP
  have hl := lv_entry ([.long w0]) (n := 2) (Nat.le_of_ble_eq_true rfl)
  rw [lg_entry_eq]
  generalize (lg_sl ([.long w0]) ++ List.replicate (2 - (lg_sl ([.long w0])).length) Slot.unset).toArray = ls at hl ⊢
  have hl : lv_has ls 2 [(0, .long w0)] := hl
  refine lv_lload_n hx hb dJ13_bitCount_95d88_0 rfl (lv_at hl 0 rfl) ?_
  refine lv_lload_n hx hb dJ13_bitCount_95d88_1 rfl (lv_at hl 0 rfl) ?_
  refine lv_iconst (v := 1) hx hb dJ13_bitCount_95d88_2 (by decide) ?_
  refine lv_lushr (v := ((w0.toUInt64 >>> ((1 : Int32).toInt64.toUInt64 &&& Int64.toUInt64 63)).toInt64)) hx hb dJ13_bitCount_95d88_3 rfl ?_
  refine lv_ldc2 (v := 6148914691236517205) hx hb hown (hts _ kl_J13_314) dJ13_bitCount_95d88_4 ?_
  refine lv_land hx hb dJ13_bitCount_95d88_7 ?_
  refine lv_lsub hx hb dJ13_bitCount_95d88_8 ?_
  refine lv_lstore_n (lv' := [(0, .long (w0 - (((w0.toUInt64 >>> ((1 : Int32).toInt64.toUInt64 &&& Int64.toUInt64 63)).toInt64) &&& 6148914691236517205)))]) hx hb dJ13_bitCount_95d88_9 rfl hl (by decide) rfl (fun ls hl => ?_)
  refine lv_lload_n hx hb dJ13_bitCount_95d88_10 rfl (lv_at hl 0 rfl) ?_
  refine lv_ldc2 (v := 3689348814741910323) hx hb hown (hts _ kl_J13_316) dJ13_bitCount_95d88_11 ?_
  refine lv_land hx hb dJ13_bitCount_95d88_14 ?_
  refine lv_lload_n hx hb dJ13_bitCount_95d88_15 rfl (lv_at hl 0 rfl) ?_
  refine lv_iconst (v := 2) hx hb dJ13_bitCount_95d88_16 (by decide) ?_
  refine lv_lushr (v := (((w0 - (((w0.toUInt64 >>> ((1 : Int32).toInt64.toUInt64 &&& Int64.toUInt64 63)).toInt64) &&& 6148914691236517205)).toUInt64 >>> ((2 : Int32).toInt64.toUInt64 &&& Int64.toUInt64 63)).toInt64)) hx hb dJ13_bitCount_95d88_17 rfl ?_
  refine lv_ldc2 (v := 3689348814741910323) hx hb hown (hts _ kl_J13_316) dJ13_bitCount_95d88_18 ?_
  refine lv_land hx hb dJ13_bitCount_95d88_21 ?_
  refine lv_ladd hx hb dJ13_bitCount_95d88_22 ?_
  refine lv_lstore_n (lv' := [(0, .long (((w0 - (((w0.toUInt64 >>> ((1 : Int32).toInt64.toUInt64 &&& Int64.toUInt64 63)).toInt64) &&& 6148914691236517205)) &&& 3689348814741910323) + ((((w0 - (((w0.toUInt64 >>> ((1 : Int32).toInt64.toUInt64 &&& Int64.toUInt64 63)).toInt64) &&& 6148914691236517205)).toUInt64 >>> ((2 : Int32).toInt64.toUInt64 &&& Int64.toUInt64 63)).toInt64) &&& 3689348814741910323)))]) hx hb dJ13_bitCount_95d88_23 rfl hl (by decide) rfl (fun ls hl => ?_)
  refine lv_lload_n hx hb dJ13_bitCount_95d88_24 rfl (lv_at hl 0 rfl) ?_
  refine lv_lload_n hx hb dJ13_bitCount_95d88_25 rfl (lv_at hl 0 rfl) ?_
  refine lv_iconst (v := 4) hx hb dJ13_bitCount_95d88_26 (by decide) ?_
  refine lv_lushr (v := (((((w0 - (((w0.toUInt64 >>> ((1 : Int32).toInt64.toUInt64 &&& Int64.toUInt64 63)).toInt64) &&& 6148914691236517205)) &&& 3689348814741910323) + ((((w0 - (((w0.toUInt64 >>> ((1 : Int32).toInt64.toUInt64 &&& Int64.toUInt64 63)).toInt64) &&& 6148914691236517205)).toUInt64 >>> ((2 : Int32).toInt64.toUInt64 &&& Int64.toUInt64 63)).toInt64) &&& 3689348814741910323)).toUInt64 >>> ((4 : Int32).toInt64.toUInt64 &&& Int64.toUInt64 63)).toInt64)) hx hb dJ13_bitCount_95d88_27 rfl ?_
  refine lv_ladd hx hb dJ13_bitCount_95d88_28 ?_
  refine lv_ldc2 (v := 1085102592571150095) hx hb hown (hts _ kl_J13_318) dJ13_bitCount_95d88_29 ?_
  refine lv_land hx hb dJ13_bitCount_95d88_32 ?_
  refine lv_lstore_n (lv' := [(0, .long (((((w0 - (((w0.toUInt64 >>> ((1 : Int32).toInt64.toUInt64 &&& Int64.toUInt64 63)).toInt64) &&& 6148914691236517205)) &&& 3689348814741910323) + ((((w0 - (((w0.toUInt64 >>> ((1 : Int32).toInt64.toUInt64 &&& Int64.toUInt64 63)).toInt64) &&& 6148914691236517205)).toUInt64 >>> ((2 : Int32).toInt64.toUInt64 &&& Int64.toUInt64 63)).toInt64) &&& 3689348814741910323)) + (((((w0 - (((w0.toUInt64 >>> ((1 : Int32).toInt64.toUInt64 &&& Int64.toUInt64 63)).toInt64) &&& 6148914691236517205)) &&& 3689348814741910323) + ((((w0 - (((w0.toUInt64 >>> ((1 : Int32).toInt64.toUInt64 &&& Int64.toUInt64 63)).toInt64) &&& 6148914691236517205)).toUInt64 >>> ((2 : Int32).toInt64.toUInt64 &&& Int64.toUInt64 63)).toInt64) &&& 3689348814741910323)).toUInt64 >>> ((4 : Int32).toInt64.toUInt64 &&& Int64.toUInt64 63)).toInt64)) &&& 1085102592571150095))]) hx hb dJ13_bitCount_95d88_33 rfl hl (by decide) rfl (fun ls hl => ?_)
  refine lv_lload_n hx hb dJ13_bitCount_95d88_34 rfl (lv_at hl 0 rfl) ?_
  refine lv_lload_n hx hb dJ13_bitCount_95d88_35 rfl (lv_at hl 0 rfl) ?_
  refine lv_bipush (v := 8) hx hb dJ13_bitCount_95d88_36 (by decide) ?_
  refine lv_lushr (v := (((((((w0 - (((w0.toUInt64 >>> ((1 : Int32).toInt64.toUInt64 &&& Int64.toUInt64 63)).toInt64) &&& 6148914691236517205)) &&& 3689348814741910323) + ((((w0 - (((w0.toUInt64 >>> ((1 : Int32).toInt64.toUInt64 &&& Int64.toUInt64 63)).toInt64) &&& 6148914691236517205)).toUInt64 >>> ((2 : Int32).toInt64.toUInt64 &&& Int64.toUInt64 63)).toInt64) &&& 3689348814741910323)) + (((((w0 - (((w0.toUInt64 >>> ((1 : Int32).toInt64.toUInt64 &&& Int64.toUInt64 63)).toInt64) &&& 6148914691236517205)) &&& 3689348814741910323) + ((((w0 - (((w0.toUInt64 >>> ((1 : Int32).toInt64.toUInt64 &&& Int64.toUInt64 63)).toInt64) &&& 6148914691236517205)).toUInt64 >>> ((2 : Int32).toInt64.toUInt64 &&& Int64.toUInt64 63)).toInt64) &&& 3689348814741910323)).toUInt64 >>> ((4 : Int32).toInt64.toUInt64 &&& Int64.toUInt64 63)).toInt64)) &&& 1085102592571150095).toUInt64 >>> ((8 : Int32).toInt64.toUInt64 &&& Int64.toUInt64 63)).toInt64)) hx hb dJ13_bitCount_95d88_38 rfl ?_
  refine lv_ladd hx hb dJ13_bitCount_95d88_39 ?_
  refine lv_lstore_n (lv' := [(0, .long ((((((w0 - (((w0.toUInt64 >>> ((1 : Int32).toInt64.toUInt64 &&& Int64.toUInt64 63)).toInt64) &&& 6148914691236517205)) &&& 3689348814741910323) + ((((w0 - (((w0.toUInt64 >>> ((1 : Int32).toInt64.toUInt64 &&& Int64.toUInt64 63)).toInt64) &&& 6148914691236517205)).toUInt64 >>> ((2 : Int32).toInt64.toUInt64 &&& Int64.toUInt64 63)).toInt64) &&& 3689348814741910323)) + (((((w0 - (((w0.toUInt64 >>> ((1 : Int32).toInt64.toUInt64 &&& Int64.toUInt64 63)).toInt64) &&& 6148914691236517205)) &&& 3689348814741910323) + ((((w0 - (((w0.toUInt64 >>> ((1 : Int32).toInt64.toUInt64 &&& Int64.toUInt64 63)).toInt64) &&& 6148914691236517205)).toUInt64 >>> ((2 : Int32).toInt64.toUInt64 &&& Int64.toUInt64 63)).toInt64) &&& 3689348814741910323)).toUInt64 >>> ((4 : Int32).toInt64.toUInt64 &&& Int64.toUInt64 63)).toInt64)) &&& 1085102592571150095) + (((((((w0 - (((w0.toUInt64 >>> ((1 : Int32).toInt64.toUInt64 &&& Int64.toUInt64 63)).toInt64) &&& 6148914691236517205)) &&& 3689348814741910323) + ((((w0 - (((w0.toUInt64 >>> ((1 : Int32).toInt64.toUInt64 &&& Int64.toUInt64 63)).toInt64) &&& 6148914691236517205)).toUInt64 >>> ((2 : Int32).toInt64.toUInt64 &&& Int64.toUInt64 63)).toInt64) &&& 3689348814741910323)) + (((((w0 - (((w0.toUInt64 >>> ((1 : Int32).toInt64.toUInt64 &&& Int64.toUInt64 63)).toInt64) &&& 6148914691236517205)) &&& 3689348814741910323) + ((((w0 - (((w0.toUInt64 >>> ((1 : Int32).toInt64.toUInt64 &&& Int64.toUInt64 63)).toInt64) &&& 6148914691236517205)).toUInt64 >>> ((2 : Int32).toInt64.toUInt64 &&& Int64.toUInt64 63)).toInt64) &&& 3689348814741910323)).toUInt64 >>> ((4 : Int32).toInt64.toUInt64 &&& Int64.toUInt64 63)).toInt64)) &&& 1085102592571150095).toUInt64 >>> ((8 : Int32).toInt64.toUInt64 &&& Int64.toUInt64 63)).toInt64)))]) hx hb dJ13_bitCount_95d88_40 rfl hl (by decide) rfl (fun ls hl => ?_)
  refine lv_lload_n hx hb dJ13_bitCount_95d88_41 rfl (lv_at hl 0 rfl) ?_
  refine lv_lload_n hx hb dJ13_bitCount_95d88_42 rfl (lv_at hl 0 rfl) ?_
  refine lv_bipush (v := 16) hx hb dJ13_bitCount_95d88_43 (by decide) ?_
  refine lv_lushr (v := ((((((((w0 - (((w0.toUInt64 >>> ((1 : Int32).toInt64.toUInt64 &&& Int64.toUInt64 63)).toInt64) &&& 6148914691236517205)) &&& 3689348814741910323) + ((((w0 - (((w0.toUInt64 >>> ((1 : Int32).toInt64.toUInt64 &&& Int64.toUInt64 63)).toInt64) &&& 6148914691236517205)).toUInt64 >>> ((2 : Int32).toInt64.toUInt64 &&& Int64.toUInt64 63)).toInt64) &&& 3689348814741910323)) + (((((w0 - (((w0.toUInt64 >>> ((1 : Int32).toInt64.toUInt64 &&& Int64.toUInt64 63)).toInt64) &&& 6148914691236517205)) &&& 3689348814741910323) + ((((w0 - (((w0.toUInt64 >>> ((1 : Int32).toInt64.toUInt64 &&& Int64.toUInt64 63)).toInt64) &&& 6148914691236517205)).toUInt64 >>> ((2 : Int32).toInt64.toUInt64 &&& Int64.toUInt64 63)).toInt64) &&& 3689348814741910323)).toUInt64 >>> ((4 : Int32).toInt64.toUInt64 &&& Int64.toUInt64 63)).toInt64)) &&& 1085102592571150095) + (((((((w0 - (((w0.toUInt64 >>> ((1 : Int32).toInt64.toUInt64 &&& Int64.toUInt64 63)).toInt64) &&& 6148914691236517205)) &&& 3689348814741910323) + ((((w0 - (((w0.toUInt64 >>> ((1 : Int32).toInt64.toUInt64 &&& Int64.toUInt64 63)).toInt64) &&& 6148914691236517205)).toUInt64 >>> ((2 : Int32).toInt64.toUInt64 &&& Int64.toUInt64 63)).toInt64) &&& 3689348814741910323)) + (((((w0 - (((w0.toUInt64 >>> ((1 : Int32).toInt64.toUInt64 &&& Int64.toUInt64 63)).toInt64) &&& 6148914691236517205)) &&& 3689348814741910323) + ((((w0 - (((w0.toUInt64 >>> ((1 : Int32).toInt64.toUInt64 &&& Int64.toUInt64 63)).toInt64) &&& 6148914691236517205)).toUInt64 >>> ((2 : Int32).toInt64.toUInt64 &&& Int64.toUInt64 63)).toInt64) &&& 3689348814741910323)).toUInt64 >>> ((4 : Int32).toInt64.toUInt64 &&& Int64.toUInt64 63)).toInt64)) &&& 1085102592571150095).toUInt64 >>> ((8 : Int32).toInt64.toUInt64 &&& Int64.toUInt64 63)).toInt64)).toUInt64 >>> ((16 : Int32).toInt64.toUInt64 &&& Int64.toUInt64 63)).toInt64)) hx hb dJ13_bitCount_95d88_45 rfl ?_
  refine lv_ladd hx hb dJ13_bitCount_95d88_46 ?_
  refine lv_lstore_n (lv' := [(0, .long (((((((w0 - (((w0.toUInt64 >>> ((1 : Int32).toInt64.toUInt64 &&& Int64.toUInt64 63)).toInt64) &&& 6148914691236517205)) &&& 3689348814741910323) + ((((w0 - (((w0.toUInt64 >>> ((1 : Int32).toInt64.toUInt64 &&& Int64.toUInt64 63)).toInt64) &&& 6148914691236517205)).toUInt64 >>> ((2 : Int32).toInt64.toUInt64 &&& Int64.toUInt64 63)).toInt64) &&& 3689348814741910323)) + (((((w0 - (((w0.toUInt64 >>> ((1 : Int32).toInt64.toUInt64 &&& Int64.toUInt64 63)).toInt64) &&& 6148914691236517205)) &&& 3689348814741910323) + ((((w0 - (((w0.toUInt64 >>> ((1 : Int32).toInt64.toUInt64 &&& Int64.toUInt64 63)).toInt64) &&& 6148914691236517205)).toUInt64 >>> ((2 : Int32).toInt64.toUInt64 &&& Int64.toUInt64 63)).toInt64) &&& 3689348814741910323)).toUInt64 >>> ((4 : Int32).toInt64.toUInt64 &&& Int64.toUInt64 63)).toInt64)) &&& 1085102592571150095) + (((((((w0 - (((w0.toUInt64 >>> ((1 : Int32).toInt64.toUInt64 &&& Int64.toUInt64 63)).toInt64) &&& 6148914691236517205)) &&& 3689348814741910323) + ((((w0 - (((w0.toUInt64 >>> ((1 : Int32).toInt64.toUInt64 &&& Int64.toUInt64 63)).toInt64) &&& 6148914691236517205)).toUInt64 >>> ((2 : Int32).toInt64.toUInt64 &&& Int64.toUInt64 63)).toInt64) &&& 3689348814741910323)) + (((((w0 - (((w0.toUInt64 >>> ((1 : Int32).toInt64.toUInt64 &&& Int64.toUInt64 63)).toInt64) &&& 6148914691236517205)) &&& 3689348814741910323) + ((((w0 - (((w0.toUInt64 >>> ((1 : Int32).toInt64.toUInt64 &&& Int64.toUInt64 63)).toInt64) &&& 6148914691236517205)).toUInt64 >>> ((2 : Int32).toInt64.toUInt64 &&& Int64.toUInt64 63)).toInt64) &&& 3689348814741910323)).toUInt64 >>> ((4 : Int32).toInt64.toUInt64 &&& Int64.toUInt64 63)).toInt64)) &&& 1085102592571150095).toUInt64 >>> ((8 : Int32).toInt64.toUInt64 &&& Int64.toUInt64 63)).toInt64)) + ((((((((w0 - (((w0.toUInt64 >>> ((1 : Int32).toInt64.toUInt64 &&& Int64.toUInt64 63)).toInt64) &&& 6148914691236517205)) &&& 3689348814741910323) + ((((w0 - (((w0.toUInt64 >>> ((1 : Int32).toInt64.toUInt64 &&& Int64.toUInt64 63)).toInt64) &&& 6148914691236517205)).toUInt64 >>> ((2 : Int32).toInt64.toUInt64 &&& Int64.toUInt64 63)).toInt64) &&& 3689348814741910323)) + (((((w0 - (((w0.toUInt64 >>> ((1 : Int32).toInt64.toUInt64 &&& Int64.toUInt64 63)).toInt64) &&& 6148914691236517205)) &&& 3689348814741910323) + ((((w0 - (((w0.toUInt64 >>> ((1 : Int32).toInt64.toUInt64 &&& Int64.toUInt64 63)).toInt64) &&& 6148914691236517205)).toUInt64 >>> ((2 : Int32).toInt64.toUInt64 &&& Int64.toUInt64 63)).toInt64) &&& 3689348814741910323)).toUInt64 >>> ((4 : Int32).toInt64.toUInt64 &&& Int64.toUInt64 63)).toInt64)) &&& 1085102592571150095) + (((((((w0 - (((w0.toUInt64 >>> ((1 : Int32).toInt64.toUInt64 &&& Int64.toUInt64 63)).toInt64) &&& 6148914691236517205)) &&& 3689348814741910323) + ((((w0 - (((w0.toUInt64 >>> ((1 : Int32).toInt64.toUInt64 &&& Int64.toUInt64 63)).toInt64) &&& 6148914691236517205)).toUInt64 >>> ((2 : Int32).toInt64.toUInt64 &&& Int64.toUInt64 63)).toInt64) &&& 3689348814741910323)) + (((((w0 - (((w0.toUInt64 >>> ((1 : Int32).toInt64.toUInt64 &&& Int64.toUInt64 63)).toInt64) &&& 6148914691236517205)) &&& 3689348814741910323) + ((((w0 - (((w0.toUInt64 >>> ((1 : Int32).toInt64.toUInt64 &&& Int64.toUInt64 63)).toInt64) &&& 6148914691236517205)).toUInt64 >>> ((2 : Int32).toInt64.toUInt64 &&& Int64.toUInt64 63)).toInt64) &&& 3689348814741910323)).toUInt64 >>> ((4 : Int32).toInt64.toUInt64 &&& Int64.toUInt64 63)).toInt64)) &&& 1085102592571150095).toUInt64 >>> ((8 : Int32).toInt64.toUInt64 &&& Int64.toUInt64 63)).toInt64)).toUInt64 >>> ((16 : Int32).toInt64.toUInt64 &&& Int64.toUInt64 63)).toInt64)))]) hx hb dJ13_bitCount_95d88_47 rfl hl (by decide) rfl (fun ls hl => ?_)
  refine lv_lload_n hx hb dJ13_bitCount_95d88_48 rfl (lv_at hl 0 rfl) ?_
  refine lv_lload_n hx hb dJ13_bitCount_95d88_49 rfl (lv_at hl 0 rfl) ?_
  refine lv_bipush (v := 32) hx hb dJ13_bitCount_95d88_50 (by decide) ?_
  refine lv_lushr (v := (((((((((w0 - (((w0.toUInt64 >>> ((1 : Int32).toInt64.toUInt64 &&& Int64.toUInt64 63)).toInt64) &&& 6148914691236517205)) &&& 3689348814741910323) + ((((w0 - (((w0.toUInt64 >>> ((1 : Int32).toInt64.toUInt64 &&& Int64.toUInt64 63)).toInt64) &&& 6148914691236517205)).toUInt64 >>> ((2 : Int32).toInt64.toUInt64 &&& Int64.toUInt64 63)).toInt64) &&& 3689348814741910323)) + (((((w0 - (((w0.toUInt64 >>> ((1 : Int32).toInt64.toUInt64 &&& Int64.toUInt64 63)).toInt64) &&& 6148914691236517205)) &&& 3689348814741910323) + ((((w0 - (((w0.toUInt64 >>> ((1 : Int32).toInt64.toUInt64 &&& Int64.toUInt64 63)).toInt64) &&& 6148914691236517205)).toUInt64 >>> ((2 : Int32).toInt64.toUInt64 &&& Int64.toUInt64 63)).toInt64) &&& 3689348814741910323)).toUInt64 >>> ((4 : Int32).toInt64.toUInt64 &&& Int64.toUInt64 63)).toInt64)) &&& 1085102592571150095) + (((((((w0 - (((w0.toUInt64 >>> ((1 : Int32).toInt64.toUInt64 &&& Int64.toUInt64 63)).toInt64) &&& 6148914691236517205)) &&& 3689348814741910323) + ((((w0 - (((w0.toUInt64 >>> ((1 : Int32).toInt64.toUInt64 &&& Int64.toUInt64 63)).toInt64) &&& 6148914691236517205)).toUInt64 >>> ((2 : Int32).toInt64.toUInt64 &&& Int64.toUInt64 63)).toInt64) &&& 3689348814741910323)) + (((((w0 - (((w0.toUInt64 >>> ((1 : Int32).toInt64.toUInt64 &&& Int64.toUInt64 63)).toInt64) &&& 6148914691236517205)) &&& 3689348814741910323) + ((((w0 - (((w0.toUInt64 >>> ((1 : Int32).toInt64.toUInt64 &&& Int64.toUInt64 63)).toInt64) &&& 6148914691236517205)).toUInt64 >>> ((2 : Int32).toInt64.toUInt64 &&& Int64.toUInt64 63)).toInt64) &&& 3689348814741910323)).toUInt64 >>> ((4 : Int32).toInt64.toUInt64 &&& Int64.toUInt64 63)).toInt64)) &&& 1085102592571150095).toUInt64 >>> ((8 : Int32).toInt64.toUInt64 &&& Int64.toUInt64 63)).toInt64)) + ((((((((w0 - (((w0.toUInt64 >>> ((1 : Int32).toInt64.toUInt64 &&& Int64.toUInt64 63)).toInt64) &&& 6148914691236517205)) &&& 3689348814741910323) + ((((w0 - (((w0.toUInt64 >>> ((1 : Int32).toInt64.toUInt64 &&& Int64.toUInt64 63)).toInt64) &&& 6148914691236517205)).toUInt64 >>> ((2 : Int32).toInt64.toUInt64 &&& Int64.toUInt64 63)).toInt64) &&& 3689348814741910323)) + (((((w0 - (((w0.toUInt64 >>> ((1 : Int32).toInt64.toUInt64 &&& Int64.toUInt64 63)).toInt64) &&& 6148914691236517205)) &&& 3689348814741910323) + ((((w0 - (((w0.toUInt64 >>> ((1 : Int32).toInt64.toUInt64 &&& Int64.toUInt64 63)).toInt64) &&& 6148914691236517205)).toUInt64 >>> ((2 : Int32).toInt64.toUInt64 &&& Int64.toUInt64 63)).toInt64) &&& 3689348814741910323)).toUInt64 >>> ((4 : Int32).toInt64.toUInt64 &&& Int64.toUInt64 63)).toInt64)) &&& 1085102592571150095) + (((((((w0 - (((w0.toUInt64 >>> ((1 : Int32).toInt64.toUInt64 &&& Int64.toUInt64 63)).toInt64) &&& 6148914691236517205)) &&& 3689348814741910323) + ((((w0 - (((w0.toUInt64 >>> ((1 : Int32).toInt64.toUInt64 &&& Int64.toUInt64 63)).toInt64) &&& 6148914691236517205)).toUInt64 >>> ((2 : Int32).toInt64.toUInt64 &&& Int64.toUInt64 63)).toInt64) &&& 3689348814741910323)) + (((((w0 - (((w0.toUInt64 >>> ((1 : Int32).toInt64.toUInt64 &&& Int64.toUInt64 63)).toInt64) &&& 6148914691236517205)) &&& 3689348814741910323) + ((((w0 - (((w0.toUInt64 >>> ((1 : Int32).toInt64.toUInt64 &&& Int64.toUInt64 63)).toInt64) &&& 6148914691236517205)).toUInt64 >>> ((2 : Int32).toInt64.toUInt64 &&& Int64.toUInt64 63)).toInt64) &&& 3689348814741910323)).toUInt64 >>> ((4 : Int32).toInt64.toUInt64 &&& Int64.toUInt64 63)).toInt64)) &&& 1085102592571150095).toUInt64 >>> ((8 : Int32).toInt64.toUInt64 &&& Int64.toUInt64 63)).toInt64)).toUInt64 >>> ((16 : Int32).toInt64.toUInt64 &&& Int64.toUInt64 63)).toInt64)).toUInt64 >>> ((32 : Int32).toInt64.toUInt64 &&& Int64.toUInt64 63)).toInt64)) hx hb dJ13_bitCount_95d88_52 rfl ?_
  refine lv_ladd hx hb dJ13_bitCount_95d88_53 ?_
  refine lv_lstore_n (lv' := [(0, .long ((((((((w0 - (((w0.toUInt64 >>> ((1 : Int32).toInt64.toUInt64 &&& Int64.toUInt64 63)).toInt64) &&& 6148914691236517205)) &&& 3689348814741910323) + ((((w0 - (((w0.toUInt64 >>> ((1 : Int32).toInt64.toUInt64 &&& Int64.toUInt64 63)).toInt64) &&& 6148914691236517205)).toUInt64 >>> ((2 : Int32).toInt64.toUInt64 &&& Int64.toUInt64 63)).toInt64) &&& 3689348814741910323)) + (((((w0 - (((w0.toUInt64 >>> ((1 : Int32).toInt64.toUInt64 &&& Int64.toUInt64 63)).toInt64) &&& 6148914691236517205)) &&& 3689348814741910323) + ((((w0 - (((w0.toUInt64 >>> ((1 : Int32).toInt64.toUInt64 &&& Int64.toUInt64 63)).toInt64) &&& 6148914691236517205)).toUInt64 >>> ((2 : Int32).toInt64.toUInt64 &&& Int64.toUInt64 63)).toInt64) &&& 3689348814741910323)).toUInt64 >>> ((4 : Int32).toInt64.toUInt64 &&& Int64.toUInt64 63)).toInt64)) &&& 1085102592571150095) + (((((((w0 - (((w0.toUInt64 >>> ((1 : Int32).toInt64.toUInt64 &&& Int64.toUInt64 63)).toInt64) &&& 6148914691236517205)) &&& 3689348814741910323) + ((((w0 - (((w0.toUInt64 >>> ((1 : Int32).toInt64.toUInt64 &&& Int64.toUInt64 63)).toInt64) &&& 6148914691236517205)).toUInt64 >>> ((2 : Int32).toInt64.toUInt64 &&& Int64.toUInt64 63)).toInt64) &&& 3689348814741910323)) + (((((w0 - (((w0.toUInt64 >>> ((1 : Int32).toInt64.toUInt64 &&& Int64.toUInt64 63)).toInt64) &&& 6148914691236517205)) &&& 3689348814741910323) + ((((w0 - (((w0.toUInt64 >>> ((1 : Int32).toInt64.toUInt64 &&& Int64.toUInt64 63)).toInt64) &&& 6148914691236517205)).toUInt64 >>> ((2 : Int32).toInt64.toUInt64 &&& Int64.toUInt64 63)).toInt64) &&& 3689348814741910323)).toUInt64 >>> ((4 : Int32).toInt64.toUInt64 &&& Int64.toUInt64 63)).toInt64)) &&& 1085102592571150095).toUInt64 >>> ((8 : Int32).toInt64.toUInt64 &&& Int64.toUInt64 63)).toInt64)) + ((((((((w0 - (((w0.toUInt64 >>> ((1 : Int32).toInt64.toUInt64 &&& Int64.toUInt64 63)).toInt64) &&& 6148914691236517205)) &&& 3689348814741910323) + ((((w0 - (((w0.toUInt64 >>> ((1 : Int32).toInt64.toUInt64 &&& Int64.toUInt64 63)).toInt64) &&& 6148914691236517205)).toUInt64 >>> ((2 : Int32).toInt64.toUInt64 &&& Int64.toUInt64 63)).toInt64) &&& 3689348814741910323)) + (((((w0 - (((w0.toUInt64 >>> ((1 : Int32).toInt64.toUInt64 &&& Int64.toUInt64 63)).toInt64) &&& 6148914691236517205)) &&& 3689348814741910323) + ((((w0 - (((w0.toUInt64 >>> ((1 : Int32).toInt64.toUInt64 &&& Int64.toUInt64 63)).toInt64) &&& 6148914691236517205)).toUInt64 >>> ((2 : Int32).toInt64.toUInt64 &&& Int64.toUInt64 63)).toInt64) &&& 3689348814741910323)).toUInt64 >>> ((4 : Int32).toInt64.toUInt64 &&& Int64.toUInt64 63)).toInt64)) &&& 1085102592571150095) + (((((((w0 - (((w0.toUInt64 >>> ((1 : Int32).toInt64.toUInt64 &&& Int64.toUInt64 63)).toInt64) &&& 6148914691236517205)) &&& 3689348814741910323) + ((((w0 - (((w0.toUInt64 >>> ((1 : Int32).toInt64.toUInt64 &&& Int64.toUInt64 63)).toInt64) &&& 6148914691236517205)).toUInt64 >>> ((2 : Int32).toInt64.toUInt64 &&& Int64.toUInt64 63)).toInt64) &&& 3689348814741910323)) + (((((w0 - (((w0.toUInt64 >>> ((1 : Int32).toInt64.toUInt64 &&& Int64.toUInt64 63)).toInt64) &&& 6148914691236517205)) &&& 3689348814741910323) + ((((w0 - (((w0.toUInt64 >>> ((1 : Int32).toInt64.toUInt64 &&& Int64.toUInt64 63)).toInt64) &&& 6148914691236517205)).toUInt64 >>> ((2 : Int32).toInt64.toUInt64 &&& Int64.toUInt64 63)).toInt64) &&& 3689348814741910323)).toUInt64 >>> ((4 : Int32).toInt64.toUInt64 &&& Int64.toUInt64 63)).toInt64)) &&& 1085102592571150095).toUInt64 >>> ((8 : Int32).toInt64.toUInt64 &&& Int64.toUInt64 63)).toInt64)).toUInt64 >>> ((16 : Int32).toInt64.toUInt64 &&& Int64.toUInt64 63)).toInt64)) + (((((((((w0 - (((w0.toUInt64 >>> ((1 : Int32).toInt64.toUInt64 &&& Int64.toUInt64 63)).toInt64) &&& 6148914691236517205)) &&& 3689348814741910323) + ((((w0 - (((w0.toUInt64 >>> ((1 : Int32).toInt64.toUInt64 &&& Int64.toUInt64 63)).toInt64) &&& 6148914691236517205)).toUInt64 >>> ((2 : Int32).toInt64.toUInt64 &&& Int64.toUInt64 63)).toInt64) &&& 3689348814741910323)) + (((((w0 - (((w0.toUInt64 >>> ((1 : Int32).toInt64.toUInt64 &&& Int64.toUInt64 63)).toInt64) &&& 6148914691236517205)) &&& 3689348814741910323) + ((((w0 - (((w0.toUInt64 >>> ((1 : Int32).toInt64.toUInt64 &&& Int64.toUInt64 63)).toInt64) &&& 6148914691236517205)).toUInt64 >>> ((2 : Int32).toInt64.toUInt64 &&& Int64.toUInt64 63)).toInt64) &&& 3689348814741910323)).toUInt64 >>> ((4 : Int32).toInt64.toUInt64 &&& Int64.toUInt64 63)).toInt64)) &&& 1085102592571150095) + (((((((w0 - (((w0.toUInt64 >>> ((1 : Int32).toInt64.toUInt64 &&& Int64.toUInt64 63)).toInt64) &&& 6148914691236517205)) &&& 3689348814741910323) + ((((w0 - (((w0.toUInt64 >>> ((1 : Int32).toInt64.toUInt64 &&& Int64.toUInt64 63)).toInt64) &&& 6148914691236517205)).toUInt64 >>> ((2 : Int32).toInt64.toUInt64 &&& Int64.toUInt64 63)).toInt64) &&& 3689348814741910323)) + (((((w0 - (((w0.toUInt64 >>> ((1 : Int32).toInt64.toUInt64 &&& Int64.toUInt64 63)).toInt64) &&& 6148914691236517205)) &&& 3689348814741910323) + ((((w0 - (((w0.toUInt64 >>> ((1 : Int32).toInt64.toUInt64 &&& Int64.toUInt64 63)).toInt64) &&& 6148914691236517205)).toUInt64 >>> ((2 : Int32).toInt64.toUInt64 &&& Int64.toUInt64 63)).toInt64) &&& 3689348814741910323)).toUInt64 >>> ((4 : Int32).toInt64.toUInt64 &&& Int64.toUInt64 63)).toInt64)) &&& 1085102592571150095).toUInt64 >>> ((8 : Int32).toInt64.toUInt64 &&& Int64.toUInt64 63)).toInt64)) + ((((((((w0 - (((w0.toUInt64 >>> ((1 : Int32).toInt64.toUInt64 &&& Int64.toUInt64 63)).toInt64) &&& 6148914691236517205)) &&& 3689348814741910323) + ((((w0 - (((w0.toUInt64 >>> ((1 : Int32).toInt64.toUInt64 &&& Int64.toUInt64 63)).toInt64) &&& 6148914691236517205)).toUInt64 >>> ((2 : Int32).toInt64.toUInt64 &&& Int64.toUInt64 63)).toInt64) &&& 3689348814741910323)) + (((((w0 - (((w0.toUInt64 >>> ((1 : Int32).toInt64.toUInt64 &&& Int64.toUInt64 63)).toInt64) &&& 6148914691236517205)) &&& 3689348814741910323) + ((((w0 - (((w0.toUInt64 >>> ((1 : Int32).toInt64.toUInt64 &&& Int64.toUInt64 63)).toInt64) &&& 6148914691236517205)).toUInt64 >>> ((2 : Int32).toInt64.toUInt64 &&& Int64.toUInt64 63)).toInt64) &&& 3689348814741910323)).toUInt64 >>> ((4 : Int32).toInt64.toUInt64 &&& Int64.toUInt64 63)).toInt64)) &&& 1085102592571150095) + (((((((w0 - (((w0.toUInt64 >>> ((1 : Int32).toInt64.toUInt64 &&& Int64.toUInt64 63)).toInt64) &&& 6148914691236517205)) &&& 3689348814741910323) + ((((w0 - (((w0.toUInt64 >>> ((1 : Int32).toInt64.toUInt64 &&& Int64.toUInt64 63)).toInt64) &&& 6148914691236517205)).toUInt64 >>> ((2 : Int32).toInt64.toUInt64 &&& Int64.toUInt64 63)).toInt64) &&& 3689348814741910323)) + (((((w0 - (((w0.toUInt64 >>> ((1 : Int32).toInt64.toUInt64 &&& Int64.toUInt64 63)).toInt64) &&& 6148914691236517205)) &&& 3689348814741910323) + ((((w0 - (((w0.toUInt64 >>> ((1 : Int32).toInt64.toUInt64 &&& Int64.toUInt64 63)).toInt64) &&& 6148914691236517205)).toUInt64 >>> ((2 : Int32).toInt64.toUInt64 &&& Int64.toUInt64 63)).toInt64) &&& 3689348814741910323)).toUInt64 >>> ((4 : Int32).toInt64.toUInt64 &&& Int64.toUInt64 63)).toInt64)) &&& 1085102592571150095).toUInt64 >>> ((8 : Int32).toInt64.toUInt64 &&& Int64.toUInt64 63)).toInt64)).toUInt64 >>> ((16 : Int32).toInt64.toUInt64 &&& Int64.toUInt64 63)).toInt64)).toUInt64 >>> ((32 : Int32).toInt64.toUInt64 &&& Int64.toUInt64 63)).toInt64)))]) hx hb dJ13_bitCount_95d88_54 rfl hl (by decide) rfl (fun ls hl => ?_)
  refine lv_lload_n hx hb dJ13_bitCount_95d88_55 rfl (lv_at hl 0 rfl) ?_
  refine lv_l2i (v := ((((((((w0 - (((w0.toUInt64 >>> ((1 : Int32).toInt64.toUInt64 &&& Int64.toUInt64 63)).toInt64) &&& 6148914691236517205)) &&& 3689348814741910323) + ((((w0 - (((w0.toUInt64 >>> ((1 : Int32).toInt64.toUInt64 &&& Int64.toUInt64 63)).toInt64) &&& 6148914691236517205)).toUInt64 >>> ((2 : Int32).toInt64.toUInt64 &&& Int64.toUInt64 63)).toInt64) &&& 3689348814741910323)) + (((((w0 - (((w0.toUInt64 >>> ((1 : Int32).toInt64.toUInt64 &&& Int64.toUInt64 63)).toInt64) &&& 6148914691236517205)) &&& 3689348814741910323) + ((((w0 - (((w0.toUInt64 >>> ((1 : Int32).toInt64.toUInt64 &&& Int64.toUInt64 63)).toInt64) &&& 6148914691236517205)).toUInt64 >>> ((2 : Int32).toInt64.toUInt64 &&& Int64.toUInt64 63)).toInt64) &&& 3689348814741910323)).toUInt64 >>> ((4 : Int32).toInt64.toUInt64 &&& Int64.toUInt64 63)).toInt64)) &&& 1085102592571150095) + (((((((w0 - (((w0.toUInt64 >>> ((1 : Int32).toInt64.toUInt64 &&& Int64.toUInt64 63)).toInt64) &&& 6148914691236517205)) &&& 3689348814741910323) + ((((w0 - (((w0.toUInt64 >>> ((1 : Int32).toInt64.toUInt64 &&& Int64.toUInt64 63)).toInt64) &&& 6148914691236517205)).toUInt64 >>> ((2 : Int32).toInt64.toUInt64 &&& Int64.toUInt64 63)).toInt64) &&& 3689348814741910323)) + (((((w0 - (((w0.toUInt64 >>> ((1 : Int32).toInt64.toUInt64 &&& Int64.toUInt64 63)).toInt64) &&& 6148914691236517205)) &&& 3689348814741910323) + ((((w0 - (((w0.toUInt64 >>> ((1 : Int32).toInt64.toUInt64 &&& Int64.toUInt64 63)).toInt64) &&& 6148914691236517205)).toUInt64 >>> ((2 : Int32).toInt64.toUInt64 &&& Int64.toUInt64 63)).toInt64) &&& 3689348814741910323)).toUInt64 >>> ((4 : Int32).toInt64.toUInt64 &&& Int64.toUInt64 63)).toInt64)) &&& 1085102592571150095).toUInt64 >>> ((8 : Int32).toInt64.toUInt64 &&& Int64.toUInt64 63)).toInt64)) + ((((((((w0 - (((w0.toUInt64 >>> ((1 : Int32).toInt64.toUInt64 &&& Int64.toUInt64 63)).toInt64) &&& 6148914691236517205)) &&& 3689348814741910323) + ((((w0 - (((w0.toUInt64 >>> ((1 : Int32).toInt64.toUInt64 &&& Int64.toUInt64 63)).toInt64) &&& 6148914691236517205)).toUInt64 >>> ((2 : Int32).toInt64.toUInt64 &&& Int64.toUInt64 63)).toInt64) &&& 3689348814741910323)) + (((((w0 - (((w0.toUInt64 >>> ((1 : Int32).toInt64.toUInt64 &&& Int64.toUInt64 63)).toInt64) &&& 6148914691236517205)) &&& 3689348814741910323) + ((((w0 - (((w0.toUInt64 >>> ((1 : Int32).toInt64.toUInt64 &&& Int64.toUInt64 63)).toInt64) &&& 6148914691236517205)).toUInt64 >>> ((2 : Int32).toInt64.toUInt64 &&& Int64.toUInt64 63)).toInt64) &&& 3689348814741910323)).toUInt64 >>> ((4 : Int32).toInt64.toUInt64 &&& Int64.toUInt64 63)).toInt64)) &&& 1085102592571150095) + (((((((w0 - (((w0.toUInt64 >>> ((1 : Int32).toInt64.toUInt64 &&& Int64.toUInt64 63)).toInt64) &&& 6148914691236517205)) &&& 3689348814741910323) + ((((w0 - (((w0.toUInt64 >>> ((1 : Int32).toInt64.toUInt64 &&& Int64.toUInt64 63)).toInt64) &&& 6148914691236517205)).toUInt64 >>> ((2 : Int32).toInt64.toUInt64 &&& Int64.toUInt64 63)).toInt64) &&& 3689348814741910323)) + (((((w0 - (((w0.toUInt64 >>> ((1 : Int32).toInt64.toUInt64 &&& Int64.toUInt64 63)).toInt64) &&& 6148914691236517205)) &&& 3689348814741910323) + ((((w0 - (((w0.toUInt64 >>> ((1 : Int32).toInt64.toUInt64 &&& Int64.toUInt64 63)).toInt64) &&& 6148914691236517205)).toUInt64 >>> ((2 : Int32).toInt64.toUInt64 &&& Int64.toUInt64 63)).toInt64) &&& 3689348814741910323)).toUInt64 >>> ((4 : Int32).toInt64.toUInt64 &&& Int64.toUInt64 63)).toInt64)) &&& 1085102592571150095).toUInt64 >>> ((8 : Int32).toInt64.toUInt64 &&& Int64.toUInt64 63)).toInt64)).toUInt64 >>> ((16 : Int32).toInt64.toUInt64 &&& Int64.toUInt64 63)).toInt64)) + (((((((((w0 - (((w0.toUInt64 >>> ((1 : Int32).toInt64.toUInt64 &&& Int64.toUInt64 63)).toInt64) &&& 6148914691236517205)) &&& 3689348814741910323) + ((((w0 - (((w0.toUInt64 >>> ((1 : Int32).toInt64.toUInt64 &&& Int64.toUInt64 63)).toInt64) &&& 6148914691236517205)).toUInt64 >>> ((2 : Int32).toInt64.toUInt64 &&& Int64.toUInt64 63)).toInt64) &&& 3689348814741910323)) + (((((w0 - (((w0.toUInt64 >>> ((1 : Int32).toInt64.toUInt64 &&& Int64.toUInt64 63)).toInt64) &&& 6148914691236517205)) &&& 3689348814741910323) + ((((w0 - (((w0.toUInt64 >>> ((1 : Int32).toInt64.toUInt64 &&& Int64.toUInt64 63)).toInt64) &&& 6148914691236517205)).toUInt64 >>> ((2 : Int32).toInt64.toUInt64 &&& Int64.toUInt64 63)).toInt64) &&& 3689348814741910323)).toUInt64 >>> ((4 : Int32).toInt64.toUInt64 &&& Int64.toUInt64 63)).toInt64)) &&& 1085102592571150095) + (((((((w0 - (((w0.toUInt64 >>> ((1 : Int32).toInt64.toUInt64 &&& Int64.toUInt64 63)).toInt64) &&& 6148914691236517205)) &&& 3689348814741910323) + ((((w0 - (((w0.toUInt64 >>> ((1 : Int32).toInt64.toUInt64 &&& Int64.toUInt64 63)).toInt64) &&& 6148914691236517205)).toUInt64 >>> ((2 : Int32).toInt64.toUInt64 &&& Int64.toUInt64 63)).toInt64) &&& 3689348814741910323)) + (((((w0 - (((w0.toUInt64 >>> ((1 : Int32).toInt64.toUInt64 &&& Int64.toUInt64 63)).toInt64) &&& 6148914691236517205)) &&& 3689348814741910323) + ((((w0 - (((w0.toUInt64 >>> ((1 : Int32).toInt64.toUInt64 &&& Int64.toUInt64 63)).toInt64) &&& 6148914691236517205)).toUInt64 >>> ((2 : Int32).toInt64.toUInt64 &&& Int64.toUInt64 63)).toInt64) &&& 3689348814741910323)).toUInt64 >>> ((4 : Int32).toInt64.toUInt64 &&& Int64.toUInt64 63)).toInt64)) &&& 1085102592571150095).toUInt64 >>> ((8 : Int32).toInt64.toUInt64 &&& Int64.toUInt64 63)).toInt64)) + ((((((((w0 - (((w0.toUInt64 >>> ((1 : Int32).toInt64.toUInt64 &&& Int64.toUInt64 63)).toInt64) &&& 6148914691236517205)) &&& 3689348814741910323) + ((((w0 - (((w0.toUInt64 >>> ((1 : Int32).toInt64.toUInt64 &&& Int64.toUInt64 63)).toInt64) &&& 6148914691236517205)).toUInt64 >>> ((2 : Int32).toInt64.toUInt64 &&& Int64.toUInt64 63)).toInt64) &&& 3689348814741910323)) + (((((w0 - (((w0.toUInt64 >>> ((1 : Int32).toInt64.toUInt64 &&& Int64.toUInt64 63)).toInt64) &&& 6148914691236517205)) &&& 3689348814741910323) + ((((w0 - (((w0.toUInt64 >>> ((1 : Int32).toInt64.toUInt64 &&& Int64.toUInt64 63)).toInt64) &&& 6148914691236517205)).toUInt64 >>> ((2 : Int32).toInt64.toUInt64 &&& Int64.toUInt64 63)).toInt64) &&& 3689348814741910323)).toUInt64 >>> ((4 : Int32).toInt64.toUInt64 &&& Int64.toUInt64 63)).toInt64)) &&& 1085102592571150095) + (((((((w0 - (((w0.toUInt64 >>> ((1 : Int32).toInt64.toUInt64 &&& Int64.toUInt64 63)).toInt64) &&& 6148914691236517205)) &&& 3689348814741910323) + ((((w0 - (((w0.toUInt64 >>> ((1 : Int32).toInt64.toUInt64 &&& Int64.toUInt64 63)).toInt64) &&& 6148914691236517205)).toUInt64 >>> ((2 : Int32).toInt64.toUInt64 &&& Int64.toUInt64 63)).toInt64) &&& 3689348814741910323)) + (((((w0 - (((w0.toUInt64 >>> ((1 : Int32).toInt64.toUInt64 &&& Int64.toUInt64 63)).toInt64) &&& 6148914691236517205)) &&& 3689348814741910323) + ((((w0 - (((w0.toUInt64 >>> ((1 : Int32).toInt64.toUInt64 &&& Int64.toUInt64 63)).toInt64) &&& 6148914691236517205)).toUInt64 >>> ((2 : Int32).toInt64.toUInt64 &&& Int64.toUInt64 63)).toInt64) &&& 3689348814741910323)).toUInt64 >>> ((4 : Int32).toInt64.toUInt64 &&& Int64.toUInt64 63)).toInt64)) &&& 1085102592571150095).toUInt64 >>> ((8 : Int32).toInt64.toUInt64 &&& Int64.toUInt64 63)).toInt64)).toUInt64 >>> ((16 : Int32).toInt64.toUInt64 &&& Int64.toUInt64 63)).toInt64)).toUInt64 >>> ((32 : Int32).toInt64.toUInt64 &&& Int64.toUInt64 63)).toInt64)).toInt32) hx hb dJ13_bitCount_95d88_56 rfl ?_
  refine lv_bipush (v := 127) hx hb dJ13_bitCount_95d88_57 (by decide) ?_
  refine lv_iand hx hb dJ13_bitCount_95d88_59 ?_
  exact W.iret (v := ((((((((((w0 - (((w0.toUInt64 >>> ((1 : Int32).toInt64.toUInt64 &&& Int64.toUInt64 63)).toInt64) &&& 6148914691236517205)) &&& 3689348814741910323) + ((((w0 - (((w0.toUInt64 >>> ((1 : Int32).toInt64.toUInt64 &&& Int64.toUInt64 63)).toInt64) &&& 6148914691236517205)).toUInt64 >>> ((2 : Int32).toInt64.toUInt64 &&& Int64.toUInt64 63)).toInt64) &&& 3689348814741910323)) + (((((w0 - (((w0.toUInt64 >>> ((1 : Int32).toInt64.toUInt64 &&& Int64.toUInt64 63)).toInt64) &&& 6148914691236517205)) &&& 3689348814741910323) + ((((w0 - (((w0.toUInt64 >>> ((1 : Int32).toInt64.toUInt64 &&& Int64.toUInt64 63)).toInt64) &&& 6148914691236517205)).toUInt64 >>> ((2 : Int32).toInt64.toUInt64 &&& Int64.toUInt64 63)).toInt64) &&& 3689348814741910323)).toUInt64 >>> ((4 : Int32).toInt64.toUInt64 &&& Int64.toUInt64 63)).toInt64)) &&& 1085102592571150095) + (((((((w0 - (((w0.toUInt64 >>> ((1 : Int32).toInt64.toUInt64 &&& Int64.toUInt64 63)).toInt64) &&& 6148914691236517205)) &&& 3689348814741910323) + ((((w0 - (((w0.toUInt64 >>> ((1 : Int32).toInt64.toUInt64 &&& Int64.toUInt64 63)).toInt64) &&& 6148914691236517205)).toUInt64 >>> ((2 : Int32).toInt64.toUInt64 &&& Int64.toUInt64 63)).toInt64) &&& 3689348814741910323)) + (((((w0 - (((w0.toUInt64 >>> ((1 : Int32).toInt64.toUInt64 &&& Int64.toUInt64 63)).toInt64) &&& 6148914691236517205)) &&& 3689348814741910323) + ((((w0 - (((w0.toUInt64 >>> ((1 : Int32).toInt64.toUInt64 &&& Int64.toUInt64 63)).toInt64) &&& 6148914691236517205)).toUInt64 >>> ((2 : Int32).toInt64.toUInt64 &&& Int64.toUInt64 63)).toInt64) &&& 3689348814741910323)).toUInt64 >>> ((4 : Int32).toInt64.toUInt64 &&& Int64.toUInt64 63)).toInt64)) &&& 1085102592571150095).toUInt64 >>> ((8 : Int32).toInt64.toUInt64 &&& Int64.toUInt64 63)).toInt64)) + ((((((((w0 - (((w0.toUInt64 >>> ((1 : Int32).toInt64.toUInt64 &&& Int64.toUInt64 63)).toInt64) &&& 6148914691236517205)) &&& 3689348814741910323) + ((((w0 - (((w0.toUInt64 >>> ((1 : Int32).toInt64.toUInt64 &&& Int64.toUInt64 63)).toInt64) &&& 6148914691236517205)).toUInt64 >>> ((2 : Int32).toInt64.toUInt64 &&& Int64.toUInt64 63)).toInt64) &&& 3689348814741910323)) + (((((w0 - (((w0.toUInt64 >>> ((1 : Int32).toInt64.toUInt64 &&& Int64.toUInt64 63)).toInt64) &&& 6148914691236517205)) &&& 3689348814741910323) + ((((w0 - (((w0.toUInt64 >>> ((1 : Int32).toInt64.toUInt64 &&& Int64.toUInt64 63)).toInt64) &&& 6148914691236517205)).toUInt64 >>> ((2 : Int32).toInt64.toUInt64 &&& Int64.toUInt64 63)).toInt64) &&& 3689348814741910323)).toUInt64 >>> ((4 : Int32).toInt64.toUInt64 &&& Int64.toUInt64 63)).toInt64)) &&& 1085102592571150095) + (((((((w0 - (((w0.toUInt64 >>> ((1 : Int32).toInt64.toUInt64 &&& Int64.toUInt64 63)).toInt64) &&& 6148914691236517205)) &&& 3689348814741910323) + ((((w0 - (((w0.toUInt64 >>> ((1 : Int32).toInt64.toUInt64 &&& Int64.toUInt64 63)).toInt64) &&& 6148914691236517205)).toUInt64 >>> ((2 : Int32).toInt64.toUInt64 &&& Int64.toUInt64 63)).toInt64) &&& 3689348814741910323)) + (((((w0 - (((w0.toUInt64 >>> ((1 : Int32).toInt64.toUInt64 &&& Int64.toUInt64 63)).toInt64) &&& 6148914691236517205)) &&& 3689348814741910323) + ((((w0 - (((w0.toUInt64 >>> ((1 : Int32).toInt64.toUInt64 &&& Int64.toUInt64 63)).toInt64) &&& 6148914691236517205)).toUInt64 >>> ((2 : Int32).toInt64.toUInt64 &&& Int64.toUInt64 63)).toInt64) &&& 3689348814741910323)).toUInt64 >>> ((4 : Int32).toInt64.toUInt64 &&& Int64.toUInt64 63)).toInt64)) &&& 1085102592571150095).toUInt64 >>> ((8 : Int32).toInt64.toUInt64 &&& Int64.toUInt64 63)).toInt64)).toUInt64 >>> ((16 : Int32).toInt64.toUInt64 &&& Int64.toUInt64 63)).toInt64)) + (((((((((w0 - (((w0.toUInt64 >>> ((1 : Int32).toInt64.toUInt64 &&& Int64.toUInt64 63)).toInt64) &&& 6148914691236517205)) &&& 3689348814741910323) + ((((w0 - (((w0.toUInt64 >>> ((1 : Int32).toInt64.toUInt64 &&& Int64.toUInt64 63)).toInt64) &&& 6148914691236517205)).toUInt64 >>> ((2 : Int32).toInt64.toUInt64 &&& Int64.toUInt64 63)).toInt64) &&& 3689348814741910323)) + (((((w0 - (((w0.toUInt64 >>> ((1 : Int32).toInt64.toUInt64 &&& Int64.toUInt64 63)).toInt64) &&& 6148914691236517205)) &&& 3689348814741910323) + ((((w0 - (((w0.toUInt64 >>> ((1 : Int32).toInt64.toUInt64 &&& Int64.toUInt64 63)).toInt64) &&& 6148914691236517205)).toUInt64 >>> ((2 : Int32).toInt64.toUInt64 &&& Int64.toUInt64 63)).toInt64) &&& 3689348814741910323)).toUInt64 >>> ((4 : Int32).toInt64.toUInt64 &&& Int64.toUInt64 63)).toInt64)) &&& 1085102592571150095) + (((((((w0 - (((w0.toUInt64 >>> ((1 : Int32).toInt64.toUInt64 &&& Int64.toUInt64 63)).toInt64) &&& 6148914691236517205)) &&& 3689348814741910323) + ((((w0 - (((w0.toUInt64 >>> ((1 : Int32).toInt64.toUInt64 &&& Int64.toUInt64 63)).toInt64) &&& 6148914691236517205)).toUInt64 >>> ((2 : Int32).toInt64.toUInt64 &&& Int64.toUInt64 63)).toInt64) &&& 3689348814741910323)) + (((((w0 - (((w0.toUInt64 >>> ((1 : Int32).toInt64.toUInt64 &&& Int64.toUInt64 63)).toInt64) &&& 6148914691236517205)) &&& 3689348814741910323) + ((((w0 - (((w0.toUInt64 >>> ((1 : Int32).toInt64.toUInt64 &&& Int64.toUInt64 63)).toInt64) &&& 6148914691236517205)).toUInt64 >>> ((2 : Int32).toInt64.toUInt64 &&& Int64.toUInt64 63)).toInt64) &&& 3689348814741910323)).toUInt64 >>> ((4 : Int32).toInt64.toUInt64 &&& Int64.toUInt64 63)).toInt64)) &&& 1085102592571150095).toUInt64 >>> ((8 : Int32).toInt64.toUInt64 &&& Int64.toUInt64 63)).toInt64)) + ((((((((w0 - (((w0.toUInt64 >>> ((1 : Int32).toInt64.toUInt64 &&& Int64.toUInt64 63)).toInt64) &&& 6148914691236517205)) &&& 3689348814741910323) + ((((w0 - (((w0.toUInt64 >>> ((1 : Int32).toInt64.toUInt64 &&& Int64.toUInt64 63)).toInt64) &&& 6148914691236517205)).toUInt64 >>> ((2 : Int32).toInt64.toUInt64 &&& Int64.toUInt64 63)).toInt64) &&& 3689348814741910323)) + (((((w0 - (((w0.toUInt64 >>> ((1 : Int32).toInt64.toUInt64 &&& Int64.toUInt64 63)).toInt64) &&& 6148914691236517205)) &&& 3689348814741910323) + ((((w0 - (((w0.toUInt64 >>> ((1 : Int32).toInt64.toUInt64 &&& Int64.toUInt64 63)).toInt64) &&& 6148914691236517205)).toUInt64 >>> ((2 : Int32).toInt64.toUInt64 &&& Int64.toUInt64 63)).toInt64) &&& 3689348814741910323)).toUInt64 >>> ((4 : Int32).toInt64.toUInt64 &&& Int64.toUInt64 63)).toInt64)) &&& 1085102592571150095) + (((((((w0 - (((w0.toUInt64 >>> ((1 : Int32).toInt64.toUInt64 &&& Int64.toUInt64 63)).toInt64) &&& 6148914691236517205)) &&& 3689348814741910323) + ((((w0 - (((w0.toUInt64 >>> ((1 : Int32).toInt64.toUInt64 &&& Int64.toUInt64 63)).toInt64) &&& 6148914691236517205)).toUInt64 >>> ((2 : Int32).toInt64.toUInt64 &&& Int64.toUInt64 63)).toInt64) &&& 3689348814741910323)) + (((((w0 - (((w0.toUInt64 >>> ((1 : Int32).toInt64.toUInt64 &&& Int64.toUInt64 63)).toInt64) &&& 6148914691236517205)) &&& 3689348814741910323) + ((((w0 - (((w0.toUInt64 >>> ((1 : Int32).toInt64.toUInt64 &&& Int64.toUInt64 63)).toInt64) &&& 6148914691236517205)).toUInt64 >>> ((2 : Int32).toInt64.toUInt64 &&& Int64.toUInt64 63)).toInt64) &&& 3689348814741910323)).toUInt64 >>> ((4 : Int32).toInt64.toUInt64 &&& Int64.toUInt64 63)).toInt64)) &&& 1085102592571150095).toUInt64 >>> ((8 : Int32).toInt64.toUInt64 &&& Int64.toUInt64 63)).toInt64)).toUInt64 >>> ((16 : Int32).toInt64.toUInt64 &&& Int64.toUInt64 63)).toInt64)).toUInt64 >>> ((32 : Int32).toInt64.toUInt64 &&& Int64.toUInt64 63)).toInt64)).toInt32) &&& 127)) hx hb hr (fun t ht hW => ⟨⟨((((((((((w0 - (((w0.toUInt64 >>> ((1 : Int32).toInt64.toUInt64 &&& Int64.toUInt64 63)).toInt64) &&& 6148914691236517205)) &&& 3689348814741910323) + ((((w0 - (((w0.toUInt64 >>> ((1 : Int32).toInt64.toUInt64 &&& Int64.toUInt64 63)).toInt64) &&& 6148914691236517205)).toUInt64 >>> ((2 : Int32).toInt64.toUInt64 &&& Int64.toUInt64 63)).toInt64) &&& 3689348814741910323)) + (((((w0 - (((w0.toUInt64 >>> ((1 : Int32).toInt64.toUInt64 &&& Int64.toUInt64 63)).toInt64) &&& 6148914691236517205)) &&& 3689348814741910323) + ((((w0 - (((w0.toUInt64 >>> ((1 : Int32).toInt64.toUInt64 &&& Int64.toUInt64 63)).toInt64) &&& 6148914691236517205)).toUInt64 >>> ((2 : Int32).toInt64.toUInt64 &&& Int64.toUInt64 63)).toInt64) &&& 3689348814741910323)).toUInt64 >>> ((4 : Int32).toInt64.toUInt64 &&& Int64.toUInt64 63)).toInt64)) &&& 1085102592571150095) + (((((((w0 - (((w0.toUInt64 >>> ((1 : Int32).toInt64.toUInt64 &&& Int64.toUInt64 63)).toInt64) &&& 6148914691236517205)) &&& 3689348814741910323) + ((((w0 - (((w0.toUInt64 >>> ((1 : Int32).toInt64.toUInt64 &&& Int64.toUInt64 63)).toInt64) &&& 6148914691236517205)).toUInt64 >>> ((2 : Int32).toInt64.toUInt64 &&& Int64.toUInt64 63)).toInt64) &&& 3689348814741910323)) + (((((w0 - (((w0.toUInt64 >>> ((1 : Int32).toInt64.toUInt64 &&& Int64.toUInt64 63)).toInt64) &&& 6148914691236517205)) &&& 3689348814741910323) + ((((w0 - (((w0.toUInt64 >>> ((1 : Int32).toInt64.toUInt64 &&& Int64.toUInt64 63)).toInt64) &&& 6148914691236517205)).toUInt64 >>> ((2 : Int32).toInt64.toUInt64 &&& Int64.toUInt64 63)).toInt64) &&& 3689348814741910323)).toUInt64 >>> ((4 : Int32).toInt64.toUInt64 &&& Int64.toUInt64 63)).toInt64)) &&& 1085102592571150095).toUInt64 >>> ((8 : Int32).toInt64.toUInt64 &&& Int64.toUInt64 63)).toInt64)) + ((((((((w0 - (((w0.toUInt64 >>> ((1 : Int32).toInt64.toUInt64 &&& Int64.toUInt64 63)).toInt64) &&& 6148914691236517205)) &&& 3689348814741910323) + ((((w0 - (((w0.toUInt64 >>> ((1 : Int32).toInt64.toUInt64 &&& Int64.toUInt64 63)).toInt64) &&& 6148914691236517205)).toUInt64 >>> ((2 : Int32).toInt64.toUInt64 &&& Int64.toUInt64 63)).toInt64) &&& 3689348814741910323)) + (((((w0 - (((w0.toUInt64 >>> ((1 : Int32).toInt64.toUInt64 &&& Int64.toUInt64 63)).toInt64) &&& 6148914691236517205)) &&& 3689348814741910323) + ((((w0 - (((w0.toUInt64 >>> ((1 : Int32).toInt64.toUInt64 &&& Int64.toUInt64 63)).toInt64) &&& 6148914691236517205)).toUInt64 >>> ((2 : Int32).toInt64.toUInt64 &&& Int64.toUInt64 63)).toInt64) &&& 3689348814741910323)).toUInt64 >>> ((4 : Int32).toInt64.toUInt64 &&& Int64.toUInt64 63)).toInt64)) &&& 1085102592571150095) + (((((((w0 - (((w0.toUInt64 >>> ((1 : Int32).toInt64.toUInt64 &&& Int64.toUInt64 63)).toInt64) &&& 6148914691236517205)) &&& 3689348814741910323) + ((((w0 - (((w0.toUInt64 >>> ((1 : Int32).toInt64.toUInt64 &&& Int64.toUInt64 63)).toInt64) &&& 6148914691236517205)).toUInt64 >>> ((2 : Int32).toInt64.toUInt64 &&& Int64.toUInt64 63)).toInt64) &&& 3689348814741910323)) + (((((w0 - (((w0.toUInt64 >>> ((1 : Int32).toInt64.toUInt64 &&& Int64.toUInt64 63)).toInt64) &&& 6148914691236517205)) &&& 3689348814741910323) + ((((w0 - (((w0.toUInt64 >>> ((1 : Int32).toInt64.toUInt64 &&& Int64.toUInt64 63)).toInt64) &&& 6148914691236517205)).toUInt64 >>> ((2 : Int32).toInt64.toUInt64 &&& Int64.toUInt64 63)).toInt64) &&& 3689348814741910323)).toUInt64 >>> ((4 : Int32).toInt64.toUInt64 &&& Int64.toUInt64 63)).toInt64)) &&& 1085102592571150095).toUInt64 >>> ((8 : Int32).toInt64.toUInt64 &&& Int64.toUInt64 63)).toInt64)).toUInt64 >>> ((16 : Int32).toInt64.toUInt64 &&& Int64.toUInt64 63)).toInt64)) + (((((((((w0 - (((w0.toUInt64 >>> ((1 : Int32).toInt64.toUInt64 &&& Int64.toUInt64 63)).toInt64) &&& 6148914691236517205)) &&& 3689348814741910323) + ((((w0 - (((w0.toUInt64 >>> ((1 : Int32).toInt64.toUInt64 &&& Int64.toUInt64 63)).toInt64) &&& 6148914691236517205)).toUInt64 >>> ((2 : Int32).toInt64.toUInt64 &&& Int64.toUInt64 63)).toInt64) &&& 3689348814741910323)) + (((((w0 - (((w0.toUInt64 >>> ((1 : Int32).toInt64.toUInt64 &&& Int64.toUInt64 63)).toInt64) &&& 6148914691236517205)) &&& 3689348814741910323) + ((((w0 - (((w0.toUInt64 >>> ((1 : Int32).toInt64.toUInt64 &&& Int64.toUInt64 63)).toInt64) &&& 6148914691236517205)).toUInt64 >>> ((2 : Int32).toInt64.toUInt64 &&& Int64.toUInt64 63)).toInt64) &&& 3689348814741910323)).toUInt64 >>> ((4 : Int32).toInt64.toUInt64 &&& Int64.toUInt64 63)).toInt64)) &&& 1085102592571150095) + (((((((w0 - (((w0.toUInt64 >>> ((1 : Int32).toInt64.toUInt64 &&& Int64.toUInt64 63)).toInt64) &&& 6148914691236517205)) &&& 3689348814741910323) + ((((w0 - (((w0.toUInt64 >>> ((1 : Int32).toInt64.toUInt64 &&& Int64.toUInt64 63)).toInt64) &&& 6148914691236517205)).toUInt64 >>> ((2 : Int32).toInt64.toUInt64 &&& Int64.toUInt64 63)).toInt64) &&& 3689348814741910323)) + (((((w0 - (((w0.toUInt64 >>> ((1 : Int32).toInt64.toUInt64 &&& Int64.toUInt64 63)).toInt64) &&& 6148914691236517205)) &&& 3689348814741910323) + ((((w0 - (((w0.toUInt64 >>> ((1 : Int32).toInt64.toUInt64 &&& Int64.toUInt64 63)).toInt64) &&& 6148914691236517205)).toUInt64 >>> ((2 : Int32).toInt64.toUInt64 &&& Int64.toUInt64 63)).toInt64) &&& 3689348814741910323)).toUInt64 >>> ((4 : Int32).toInt64.toUInt64 &&& Int64.toUInt64 63)).toInt64)) &&& 1085102592571150095).toUInt64 >>> ((8 : Int32).toInt64.toUInt64 &&& Int64.toUInt64 63)).toInt64)) + ((((((((w0 - (((w0.toUInt64 >>> ((1 : Int32).toInt64.toUInt64 &&& Int64.toUInt64 63)).toInt64) &&& 6148914691236517205)) &&& 3689348814741910323) + ((((w0 - (((w0.toUInt64 >>> ((1 : Int32).toInt64.toUInt64 &&& Int64.toUInt64 63)).toInt64) &&& 6148914691236517205)).toUInt64 >>> ((2 : Int32).toInt64.toUInt64 &&& Int64.toUInt64 63)).toInt64) &&& 3689348814741910323)) + (((((w0 - (((w0.toUInt64 >>> ((1 : Int32).toInt64.toUInt64 &&& Int64.toUInt64 63)).toInt64) &&& 6148914691236517205)) &&& 3689348814741910323) + ((((w0 - (((w0.toUInt64 >>> ((1 : Int32).toInt64.toUInt64 &&& Int64.toUInt64 63)).toInt64) &&& 6148914691236517205)).toUInt64 >>> ((2 : Int32).toInt64.toUInt64 &&& Int64.toUInt64 63)).toInt64) &&& 3689348814741910323)).toUInt64 >>> ((4 : Int32).toInt64.toUInt64 &&& Int64.toUInt64 63)).toInt64)) &&& 1085102592571150095) + (((((((w0 - (((w0.toUInt64 >>> ((1 : Int32).toInt64.toUInt64 &&& Int64.toUInt64 63)).toInt64) &&& 6148914691236517205)) &&& 3689348814741910323) + ((((w0 - (((w0.toUInt64 >>> ((1 : Int32).toInt64.toUInt64 &&& Int64.toUInt64 63)).toInt64) &&& 6148914691236517205)).toUInt64 >>> ((2 : Int32).toInt64.toUInt64 &&& Int64.toUInt64 63)).toInt64) &&& 3689348814741910323)) + (((((w0 - (((w0.toUInt64 >>> ((1 : Int32).toInt64.toUInt64 &&& Int64.toUInt64 63)).toInt64) &&& 6148914691236517205)) &&& 3689348814741910323) + ((((w0 - (((w0.toUInt64 >>> ((1 : Int32).toInt64.toUInt64 &&& Int64.toUInt64 63)).toInt64) &&& 6148914691236517205)).toUInt64 >>> ((2 : Int32).toInt64.toUInt64 &&& Int64.toUInt64 63)).toInt64) &&& 3689348814741910323)).toUInt64 >>> ((4 : Int32).toInt64.toUInt64 &&& Int64.toUInt64 63)).toInt64)) &&& 1085102592571150095).toUInt64 >>> ((8 : Int32).toInt64.toUInt64 &&& Int64.toUInt64 63)).toInt64)).toUInt64 >>> ((16 : Int32).toInt64.toUInt64 &&& Int64.toUInt64 63)).toInt64)).toUInt64 >>> ((32 : Int32).toInt64.toUInt64 &&& Int64.toUInt64 63)).toInt64)).toInt32) &&& 127), [], rfl, ⟨rfl, rfl⟩, by rw [ht]; exact hP, hD⟩, hS.F ht⟩) hS.2.2 dJ13_bitCount_95d88_60
theorem ml_X11_248 : Cond.methodLink RX11 248 yJ13_bitCount_95d88 ∈ tblG := tg 903 (by decide +kernel) (by decide +kernel)
theorem st_J13_bitCount_95d88 : Cond.static yJ13_bitCount_95d88 ∈ tblG := tg 904 (by decide +kernel) (by decide +kernel)
theorem ini_J13 : Cond.initialized RJ13 ∈ tblG := tg 109 (by decide +kernel) (by decide +kernel)
theorem cd_J13_bitCount_95d88 : Cond.code yJ13_bitCount_95d88 cJ13_bitCount_95d88 2 (some .int) ∈ tblG := tg 905 (by decide +kernel) (by decide +kernel)
theorem gW_J13_bitCount_95d88 : GoodIn tblG (wsG yJ13_bitCount_95d88 cJ13_bitCount_95d88 2 (some .int)) := tgi cd_J13_bitCount_95d88
theorem gS_X11_248 : GoodIn tblG (va_wsS RX11 248 yJ13_bitCount_95d88 (wsG yJ13_bitCount_95d88 cJ13_bitCount_95d88 2 (some .int))) := tgS ml_X11_248 st_J13_bitCount_95d88 ini_J13 gW_J13_bitCount_95d88
theorem hs_J13_bitCount_95d88 : yJ13_bitCount_95d88.cls ≠ "java/lang/invoke/MethodHandle" ∧ yJ13_bitCount_95d88.cls ≠ "java/lang/invoke/VarHandle" ∧ (parseMethodDescriptor yJ13_bitCount_95d88.desc).map (fun d => d.parameters.length) = some 1 := by decide +kernel
theorem dX11_lit_0 : decode cX11_lit 0 = .ok (.iload_n 1, 1) := by decide +kernel
theorem dX11_lit_1 : decode cX11_lit 1 = .ok (.invokestatic 97, 3) := by decide +kernel
theorem dX11_lit_4 : decode cX11_lit 4 = .ok (.ifCond .eq 17, 3) := by decide +kernel
theorem dX11_lit_7 : decode cX11_lit 7 = .ok (.iload_n 2, 1) := by decide +kernel
theorem dX11_lit_8 : decode cX11_lit 8 = .ok (.invokestatic 127, 3) := by decide +kernel
theorem dX11_lit_11 : decode cX11_lit 11 = .ok (.ifCond .eq 10, 3) := by decide +kernel
theorem dX11_lit_14 : decode cX11_lit 14 = .ok (.iload_n 3, 1) := by decide +kernel
theorem dX11_lit_15 : decode cX11_lit 15 = .ok (.invokestatic 241, 3) := by decide +kernel
theorem dX11_lit_18 : decode cX11_lit 18 = .ok (.ifCond .ne 5, 3) := by decide +kernel
theorem dX11_lit_21 : decode cX11_lit 21 = .ok (.iconst (-1), 1) := by decide +kernel
theorem dX11_lit_22 : decode cX11_lit 22 = .ok (.ireturn, 1) := by decide +kernel
theorem dX11_lit_23 : decode cX11_lit 23 = .ok (.aload_n 0, 1) := by decide +kernel
theorem dX11_lit_24 : decode cX11_lit 24 = .ok (.getfield 29, 3) := by decide +kernel
theorem dX11_lit_27 : decode cX11_lit 27 = .ok (.iload_n 1, 1) := by decide +kernel
theorem dX11_lit_28 : decode cX11_lit 28 = .ok (.iload_n 2, 1) := by decide +kernel
theorem dX11_lit_29 : decode cX11_lit 29 = .ok (.invokevirtual 244, 3) := by decide +kernel
theorem dX11_lit_32 : decode cX11_lit 32 = .ok (.lstore 4, 2) := by decide +kernel
theorem dX11_lit_34 : decode cX11_lit 34 = .ok (.iload_n 3, 1) := by decide +kernel
theorem dX11_lit_35 : decode cX11_lit 35 = .ok (.iconst (-1), 1) := by decide +kernel
theorem dX11_lit_36 : decode cX11_lit 36 = .ok (.if_icmp .ne 9, 3) := by decide +kernel
theorem dX11_lit_39 : decode cX11_lit 39 = .ok (.lload 4, 2) := by decide +kernel
theorem dX11_lit_41 : decode cX11_lit 41 = .ok (.invokestatic 248, 3) := by decide +kernel
theorem dX11_lit_44 : decode cX11_lit 44 = .ok (.ireturn, 1) := by decide +kernel
theorem dX11_lit_45 : decode cX11_lit 45 = .ok (.lload 4, 2) := by decide +kernel
theorem dX11_lit_47 : decode cX11_lit 47 = .ok (.iload_n 3, 1) := by decide +kernel
theorem dX11_lit_48 : decode cX11_lit 48 = .ok (.invokestatic 115, 3) := by decide +kernel
theorem dX11_lit_51 : decode cX11_lit 51 = .ok (.ifCond .eq 7, 3) := by decide +kernel
theorem dX11_lit_54 : decode cX11_lit 54 = .ok (.iconst 1, 1) := by decide +kernel
theorem dX11_lit_55 : decode cX11_lit 55 = .ok (.goto 4, 3) := by decide +kernel
theorem dX11_lit_58 : decode cX11_lit 58 = .ok (.iconst 0, 1) := by decide +kernel
theorem dX11_lit_59 : decode cX11_lit 59 = .ok (.ireturn, 1) := by decide +kernel
