set_option maxHeartbeats 4000000 in
set_option maxRecDepth 100000 in
theorem kX12_look (l : Launch) (G : g5_G) (a0 a1 a2 a3 a4 a5 a6 a7 a8 a9 a10 a11 a12 a13 a14 a15 a16 a17 a18 a19 a20 a21 a22 : Nat) (sz : Nat) (n0 : Int32) (n1 : Int32) (n2 : Int32) (n3 : Int32) : Met l yX12_look (wsG yX12_look cX12_look 5 (some .int)) ({ frames := 3, cells := 0, slots := 0, locals := 67 }) (va_Pc [.ref a0, .int n0, .int n1, .int n2, .int n3] (g5_P G [(a0, .inr (12, [.int 0, .int 0, .ref a1, .ref a2, .ref a3, .ref a4, .int 0, .ref a5, .int 0, .int 0, .int 0, .int 0, .long 0, .int (-1), .int 0, .int 0, .ref a6, .int 0, .ref a7, .ref a8, .int 0, .ref a9, .ref a10, .int 0, .int 0, .ref a11, .ref a12, .int 0, .ref a13, .ref a14, .int 0, .long 0, .long 0, .int 0, .int 0, .int 0, .int 0, .int 0, .ref a15, .int 0, .int 0, .ref a16, .int 0, .ref a17, .ref a18, .ref a19, .int 0, .ref a20, .ref a21, .long 0, .ref a22, .int 0])), (a2, .inl (G.2 0, 5740, .inl (upd (upd (upd (fun _ => 0) 3 (-1)) 4 1000) 6 (-1)))), (a15, .inl (G.2 0, 200, .inl (fun _ => 0)))] sz)) (va_Qi (fun (r : Int32) (u : va_W) => ((n0.toInt < 0 ∨ 63 < n0.toInt) ∧ (r = (-1)) ∧ (u = [])) ∨ ((0 ≤ n0.toInt ∧ n0.toInt ≤ 63) ∧ (n1.toInt < 0 ∨ 3 < n1.toInt) ∧ (r = (-1)) ∧ (u = [])) ∨ ((0 ≤ n0.toInt ∧ n0.toInt ≤ 63) ∧ (0 ≤ n1.toInt ∧ n1.toInt ≤ 3) ∧ (n2.toInt < 0 ∨ 23 < n2.toInt) ∧ (r = (-1)) ∧ (u = [])) ∨ (∃ (z19 : Int32) (z20 : Int32) (z21 : Nat → Int32), (0 ≤ n0.toInt ∧ n0.toInt ≤ 63) ∧ (0 ≤ n1.toInt ∧ n1.toInt ≤ 3) ∧ (0 ≤ n2.toInt ∧ n2.toInt ≤ 23) ∧ (n1.toInt = 0) ∧ (z19.toInt = n0.toInt / 8) ∧ (0 ≤ z19.toInt ∧ z19.toInt ≤ 7) ∧ (0 ≤ z20.toInt ∧ z20.toInt ≤ 63) ∧ (∀ j : Nat, (j : Int) < z19.toInt → (z21 j).toInt = n2.toInt * 64 + (n0.toInt - 8 * ((j : Int) + 1))) ∧ (n3.toInt = 0) ∧ (r = (-1)) ∧ (u = [])) ∨ (∃ (z19 : Int32) (z20 : Int32) (z21 : Nat → Int32), (0 ≤ n0.toInt ∧ n0.toInt ≤ 63) ∧ (0 ≤ n1.toInt ∧ n1.toInt ≤ 3) ∧ (0 ≤ n2.toInt ∧ n2.toInt ≤ 23) ∧ (n1.toInt = 0) ∧ (z19.toInt = n0.toInt / 8) ∧ (0 ≤ z19.toInt ∧ z19.toInt ≤ 7) ∧ (0 ≤ z20.toInt ∧ z20.toInt ≤ 63) ∧ (∀ j : Nat, (j : Int) < z19.toInt → (z21 j).toInt = n2.toInt * 64 + (n0.toInt - 8 * ((j : Int) + 1))) ∧ (n3.toInt = 1) ∧ (r = z19) ∧ (u = [])) ∨ (∃ (z19 : Int32) (z20 : Int32) (z21 : Nat → Int32), (0 ≤ n0.toInt ∧ n0.toInt ≤ 63) ∧ (0 ≤ n1.toInt ∧ n1.toInt ≤ 3) ∧ (0 ≤ n2.toInt ∧ n2.toInt ≤ 23) ∧ (n1.toInt = 0) ∧ (z19.toInt = n0.toInt / 8) ∧ (0 ≤ z19.toInt ∧ z19.toInt ≤ 7) ∧ (0 ≤ z20.toInt ∧ z20.toInt ≤ 63) ∧ (∀ j : Nat, (j : Int) < z19.toInt → (z21 j).toInt = n2.toInt * 64 + (n0.toInt - 8 * ((j : Int) + 1))) ∧ (n3.toInt = 2) ∧ (z19.toInt ≠ 0) ∧ (((z21 (z19 - 1).toNatClampNeg) / 64).toInt = ((n2.toInt * 64 + (n0.toInt - 8 * ((z19.toInt - 1) + 1))) / 64)) ∧ (r = ((z21 (z19 - 1).toNatClampNeg) / 64)) ∧ (u = [])) ∨ (∃ (z19 : Int32) (z20 : Int32) (z21 : Nat → Int32), (0 ≤ n0.toInt ∧ n0.toInt ≤ 63) ∧ (0 ≤ n1.toInt ∧ n1.toInt ≤ 3) ∧ (0 ≤ n2.toInt ∧ n2.toInt ≤ 23) ∧ (n1.toInt = 0) ∧ (z19.toInt = n0.toInt / 8) ∧ (0 ≤ z19.toInt ∧ z19.toInt ≤ 7) ∧ (0 ≤ z20.toInt ∧ z20.toInt ≤ 63) ∧ (∀ j : Nat, (j : Int) < z19.toInt → (z21 j).toInt = n2.toInt * 64 + (n0.toInt - 8 * ((j : Int) + 1))) ∧ (n3.toInt = 2) ∧ (z19.toInt = 0) ∧ (r = (-1)) ∧ (u = [])) ∨ (∃ (z19 : Int32) (z20 : Int32) (z21 : Nat → Int32), (0 ≤ n0.toInt ∧ n0.toInt ≤ 63) ∧ (0 ≤ n1.toInt ∧ n1.toInt ≤ 3) ∧ (0 ≤ n2.toInt ∧ n2.toInt ≤ 23) ∧ (n1.toInt = 0) ∧ (z19.toInt = n0.toInt / 8) ∧ (0 ≤ z19.toInt ∧ z19.toInt ≤ 7) ∧ (0 ≤ z20.toInt ∧ z20.toInt ≤ 63) ∧ (∀ j : Nat, (j : Int) < z19.toInt → (z21 j).toInt = n2.toInt * 64 + (n0.toInt - 8 * ((j : Int) + 1))) ∧ (n3.toInt = 3) ∧ (r = 1000000) ∧ (u = [])) ∨ (∃ (z19 : Int32) (z20 : Int32) (z21 : Nat → Int32), (0 ≤ n0.toInt ∧ n0.toInt ≤ 63) ∧ (0 ≤ n1.toInt ∧ n1.toInt ≤ 3) ∧ (0 ≤ n2.toInt ∧ n2.toInt ≤ 23) ∧ (n1.toInt = 0) ∧ (z19.toInt = n0.toInt / 8) ∧ (0 ≤ z19.toInt ∧ z19.toInt ≤ 7) ∧ (0 ≤ z20.toInt ∧ z20.toInt ≤ 63) ∧ (∀ j : Nat, (j : Int) < z19.toInt → (z21 j).toInt = n2.toInt * 64 + (n0.toInt - 8 * ((j : Int) + 1))) ∧ (n3.toInt = 4) ∧ (r = 0) ∧ (u = [])) ∨ (∃ (z19 : Int32) (z20 : Int32) (z21 : Nat → Int32), (0 ≤ n0.toInt ∧ n0.toInt ≤ 63) ∧ (0 ≤ n1.toInt ∧ n1.toInt ≤ 3) ∧ (0 ≤ n2.toInt ∧ n2.toInt ≤ 23) ∧ (n1.toInt = 0) ∧ (z19.toInt = n0.toInt / 8) ∧ (0 ≤ z19.toInt ∧ z19.toInt ≤ 7) ∧ (0 ≤ z20.toInt ∧ z20.toInt ≤ 63) ∧ (∀ j : Nat, (j : Int) < z19.toInt → (z21 j).toInt = n2.toInt * 64 + (n0.toInt - 8 * ((j : Int) + 1))) ∧ (n3.toInt < 0) ∧ (r = (-1)) ∧ (u = [])) ∨ (∃ (z19 : Int32) (z20 : Int32) (z21 : Nat → Int32), (0 ≤ n0.toInt ∧ n0.toInt ≤ 63) ∧ (0 ≤ n1.toInt ∧ n1.toInt ≤ 3) ∧ (0 ≤ n2.toInt ∧ n2.toInt ≤ 23) ∧ (n1.toInt = 0) ∧ (z19.toInt = n0.toInt / 8) ∧ (0 ≤ z19.toInt ∧ z19.toInt ≤ 7) ∧ (0 ≤ z20.toInt ∧ z20.toInt ≤ 63) ∧ (∀ j : Nat, (j : Int) < z19.toInt → (z21 j).toInt = n2.toInt * 64 + (n0.toInt - 8 * ((j : Int) + 1))) ∧ (n3.toInt > 4) ∧ (r = (-1)) ∧ (u = [])) ∨ (∃ (z31 : Int32) (z32 : Int32) (z33 : Nat → Int32), (0 ≤ n0.toInt ∧ n0.toInt ≤ 63) ∧ (0 ≤ n1.toInt ∧ n1.toInt ≤ 3) ∧ (0 ≤ n2.toInt ∧ n2.toInt ≤ 23) ∧ (n1.toInt = 1) ∧ (z31.toInt = 7 - n0.toInt % 8) ∧ (0 ≤ z31.toInt ∧ z31.toInt ≤ 7) ∧ (0 ≤ z32.toInt ∧ z32.toInt ≤ 63) ∧ (∀ j : Nat, (j : Int) < z31.toInt → (z33 j).toInt = n2.toInt * 64 + (n0.toInt + ((j : Int) + 1))) ∧ (n3.toInt = 0) ∧ (r = (-1)) ∧ (u = [])) ∨ (∃ (z31 : Int32) (z32 : Int32) (z33 : Nat → Int32), (0 ≤ n0.toInt ∧ n0.toInt ≤ 63) ∧ (0 ≤ n1.toInt ∧ n1.toInt ≤ 3) ∧ (0 ≤ n2.toInt ∧ n2.toInt ≤ 23) ∧ (n1.toInt = 1) ∧ (z31.toInt = 7 - n0.toInt % 8) ∧ (0 ≤ z31.toInt ∧ z31.toInt ≤ 7) ∧ (0 ≤ z32.toInt ∧ z32.toInt ≤ 63) ∧ (∀ j : Nat, (j : Int) < z31.toInt → (z33 j).toInt = n2.toInt * 64 + (n0.toInt + ((j : Int) + 1))) ∧ (n3.toInt = 1) ∧ (r = z31) ∧ (u = [])) ∨ (∃ (z31 : Int32) (z32 : Int32) (z33 : Nat → Int32), (0 ≤ n0.toInt ∧ n0.toInt ≤ 63) ∧ (0 ≤ n1.toInt ∧ n1.toInt ≤ 3) ∧ (0 ≤ n2.toInt ∧ n2.toInt ≤ 23) ∧ (n1.toInt = 1) ∧ (z31.toInt = 7 - n0.toInt % 8) ∧ (0 ≤ z31.toInt ∧ z31.toInt ≤ 7) ∧ (0 ≤ z32.toInt ∧ z32.toInt ≤ 63) ∧ (∀ j : Nat, (j : Int) < z31.toInt → (z33 j).toInt = n2.toInt * 64 + (n0.toInt + ((j : Int) + 1))) ∧ (n3.toInt = 2) ∧ (z31.toInt ≠ 0) ∧ (((z33 (z31 - 1).toNatClampNeg) / 64).toInt = ((n2.toInt * 64 + (n0.toInt + ((z31.toInt - 1) + 1))) / 64)) ∧ (r = ((z33 (z31 - 1).toNatClampNeg) / 64)) ∧ (u = [])) ∨ (∃ (z31 : Int32) (z32 : Int32) (z33 : Nat → Int32), (0 ≤ n0.toInt ∧ n0.toInt ≤ 63) ∧ (0 ≤ n1.toInt ∧ n1.toInt ≤ 3) ∧ (0 ≤ n2.toInt ∧ n2.toInt ≤ 23) ∧ (n1.toInt = 1) ∧ (z31.toInt = 7 - n0.toInt % 8) ∧ (0 ≤ z31.toInt ∧ z31.toInt ≤ 7) ∧ (0 ≤ z32.toInt ∧ z32.toInt ≤ 63) ∧ (∀ j : Nat, (j : Int) < z31.toInt → (z33 j).toInt = n2.toInt * 64 + (n0.toInt + ((j : Int) + 1))) ∧ (n3.toInt = 2) ∧ (z31.toInt = 0) ∧ (r = (-1)) ∧ (u = [])) ∨ (∃ (z31 : Int32) (z32 : Int32) (z33 : Nat → Int32), (0 ≤ n0.toInt ∧ n0.toInt ≤ 63) ∧ (0 ≤ n1.toInt ∧ n1.toInt ≤ 3) ∧ (0 ≤ n2.toInt ∧ n2.toInt ≤ 23) ∧ (n1.toInt = 1) ∧ (z31.toInt = 7 - n0.toInt % 8) ∧ (0 ≤ z31.toInt ∧ z31.toInt ≤ 7) ∧ (0 ≤ z32.toInt ∧ z32.toInt ≤ 63) ∧ (∀ j : Nat, (j : Int) < z31.toInt → (z33 j).toInt = n2.toInt * 64 + (n0.toInt + ((j : Int) + 1))) ∧ (n3.toInt = 3) ∧ (r = 1000000) ∧ (u = [])) ∨ (∃ (z31 : Int32) (z32 : Int32) (z33 : Nat → Int32), (0 ≤ n0.toInt ∧ n0.toInt ≤ 63) ∧ (0 ≤ n1.toInt ∧ n1.toInt ≤ 3) ∧ (0 ≤ n2.toInt ∧ n2.toInt ≤ 23) ∧ (n1.toInt = 1) ∧ (z31.toInt = 7 - n0.toInt % 8) ∧ (0 ≤ z31.toInt ∧ z31.toInt ≤ 7) ∧ (0 ≤ z32.toInt ∧ z32.toInt ≤ 63) ∧ (∀ j : Nat, (j : Int) < z31.toInt → (z33 j).toInt = n2.toInt * 64 + (n0.toInt + ((j : Int) + 1))) ∧ (n3.toInt = 4) ∧ (r = 0) ∧ (u = [])) ∨ (∃ (z31 : Int32) (z32 : Int32) (z33 : Nat → Int32), (0 ≤ n0.toInt ∧ n0.toInt ≤ 63) ∧ (0 ≤ n1.toInt ∧ n1.toInt ≤ 3) ∧ (0 ≤ n2.toInt ∧ n2.toInt ≤ 23) ∧ (n1.toInt = 1) ∧ (z31.toInt = 7 - n0.toInt % 8) ∧ (0 ≤ z31.toInt ∧ z31.toInt ≤ 7) ∧ (0 ≤ z32.toInt ∧ z32.toInt ≤ 63) ∧ (∀ j : Nat, (j : Int) < z31.toInt → (z33 j).toInt = n2.toInt * 64 + (n0.toInt + ((j : Int) + 1))) ∧ (n3.toInt < 0) ∧ (r = (-1)) ∧ (u = [])) ∨ (∃ (z31 : Int32) (z32 : Int32) (z33 : Nat → Int32), (0 ≤ n0.toInt ∧ n0.toInt ≤ 63) ∧ (0 ≤ n1.toInt ∧ n1.toInt ≤ 3) ∧ (0 ≤ n2.toInt ∧ n2.toInt ≤ 23) ∧ (n1.toInt = 1) ∧ (z31.toInt = 7 - n0.toInt % 8) ∧ (0 ≤ z31.toInt ∧ z31.toInt ≤ 7) ∧ (0 ≤ z32.toInt ∧ z32.toInt ≤ 63) ∧ (∀ j : Nat, (j : Int) < z31.toInt → (z33 j).toInt = n2.toInt * 64 + (n0.toInt + ((j : Int) + 1))) ∧ (n3.toInt > 4) ∧ (r = (-1)) ∧ (u = [])) ∨ (∃ (z43 : Int32) (z44 : Int32) (z45 : Nat → Int32), (0 ≤ n0.toInt ∧ n0.toInt ≤ 63) ∧ (0 ≤ n1.toInt ∧ n1.toInt ≤ 3) ∧ (0 ≤ n2.toInt ∧ n2.toInt ≤ 23) ∧ (n1.toInt = 2) ∧ (z43.toInt = 7 - n0.toInt / 8) ∧ (0 ≤ z43.toInt ∧ z43.toInt ≤ 7) ∧ (0 ≤ z44.toInt ∧ z44.toInt ≤ 63) ∧ (∀ j : Nat, (j : Int) < z43.toInt → (z45 j).toInt = n2.toInt * 64 + (n0.toInt + 8 * ((j : Int) + 1))) ∧ (n3.toInt = 0) ∧ (r = (-1)) ∧ (u = [])) ∨ (∃ (z43 : Int32) (z44 : Int32) (z45 : Nat → Int32), (0 ≤ n0.toInt ∧ n0.toInt ≤ 63) ∧ (0 ≤ n1.toInt ∧ n1.toInt ≤ 3) ∧ (0 ≤ n2.toInt ∧ n2.toInt ≤ 23) ∧ (n1.toInt = 2) ∧ (z43.toInt = 7 - n0.toInt / 8) ∧ (0 ≤ z43.toInt ∧ z43.toInt ≤ 7) ∧ (0 ≤ z44.toInt ∧ z44.toInt ≤ 63) ∧ (∀ j : Nat, (j : Int) < z43.toInt → (z45 j).toInt = n2.toInt * 64 + (n0.toInt + 8 * ((j : Int) + 1))) ∧ (n3.toInt = 1) ∧ (r = z43) ∧ (u = [])) ∨ (∃ (z43 : Int32) (z44 : Int32) (z45 : Nat → Int32), (0 ≤ n0.toInt ∧ n0.toInt ≤ 63) ∧ (0 ≤ n1.toInt ∧ n1.toInt ≤ 3) ∧ (0 ≤ n2.toInt ∧ n2.toInt ≤ 23) ∧ (n1.toInt = 2) ∧ (z43.toInt = 7 - n0.toInt / 8) ∧ (0 ≤ z43.toInt ∧ z43.toInt ≤ 7) ∧ (0 ≤ z44.toInt ∧ z44.toInt ≤ 63) ∧ (∀ j : Nat, (j : Int) < z43.toInt → (z45 j).toInt = n2.toInt * 64 + (n0.toInt + 8 * ((j : Int) + 1))) ∧ (n3.toInt = 2) ∧ (z43.toInt ≠ 0) ∧ (((z45 (z43 - 1).toNatClampNeg) / 64).toInt = ((n2.toInt * 64 + (n0.toInt + 8 * ((z43.toInt - 1) + 1))) / 64)) ∧ (r = ((z45 (z43 - 1).toNatClampNeg) / 64)) ∧ (u = [])) ∨ (∃ (z43 : Int32) (z44 : Int32) (z45 : Nat → Int32), (0 ≤ n0.toInt ∧ n0.toInt ≤ 63) ∧ (0 ≤ n1.toInt ∧ n1.toInt ≤ 3) ∧ (0 ≤ n2.toInt ∧ n2.toInt ≤ 23) ∧ (n1.toInt = 2) ∧ (z43.toInt = 7 - n0.toInt / 8) ∧ (0 ≤ z43.toInt ∧ z43.toInt ≤ 7) ∧ (0 ≤ z44.toInt ∧ z44.toInt ≤ 63) ∧ (∀ j : Nat, (j : Int) < z43.toInt → (z45 j).toInt = n2.toInt * 64 + (n0.toInt + 8 * ((j : Int) + 1))) ∧ (n3.toInt = 2) ∧ (z43.toInt = 0) ∧ (r = (-1)) ∧ (u = [])) ∨ (∃ (z43 : Int32) (z44 : Int32) (z45 : Nat → Int32), (0 ≤ n0.toInt ∧ n0.toInt ≤ 63) ∧ (0 ≤ n1.toInt ∧ n1.toInt ≤ 3) ∧ (0 ≤ n2.toInt ∧ n2.toInt ≤ 23) ∧ (n1.toInt = 2) ∧ (z43.toInt = 7 - n0.toInt / 8) ∧ (0 ≤ z43.toInt ∧ z43.toInt ≤ 7) ∧ (0 ≤ z44.toInt ∧ z44.toInt ≤ 63) ∧ (∀ j : Nat, (j : Int) < z43.toInt → (z45 j).toInt = n2.toInt * 64 + (n0.toInt + 8 * ((j : Int) + 1))) ∧ (n3.toInt = 3) ∧ (r = 1000000) ∧ (u = [])) ∨ (∃ (z43 : Int32) (z44 : Int32) (z45 : Nat → Int32), (0 ≤ n0.toInt ∧ n0.toInt ≤ 63) ∧ (0 ≤ n1.toInt ∧ n1.toInt ≤ 3) ∧ (0 ≤ n2.toInt ∧ n2.toInt ≤ 23) ∧ (n1.toInt = 2) ∧ (z43.toInt = 7 - n0.toInt / 8) ∧ (0 ≤ z43.toInt ∧ z43.toInt ≤ 7) ∧ (0 ≤ z44.toInt ∧ z44.toInt ≤ 63) ∧ (∀ j : Nat, (j : Int) < z43.toInt → (z45 j).toInt = n2.toInt * 64 + (n0.toInt + 8 * ((j : Int) + 1))) ∧ (n3.toInt = 4) ∧ (r = 0) ∧ (u = [])) ∨ (∃ (z43 : Int32) (z44 : Int32) (z45 : Nat → Int32), (0 ≤ n0.toInt ∧ n0.toInt ≤ 63) ∧ (0 ≤ n1.toInt ∧ n1.toInt ≤ 3) ∧ (0 ≤ n2.toInt ∧ n2.toInt ≤ 23) ∧ (n1.toInt = 2) ∧ (z43.toInt = 7 - n0.toInt / 8) ∧ (0 ≤ z43.toInt ∧ z43.toInt ≤ 7) ∧ (0 ≤ z44.toInt ∧ z44.toInt ≤ 63) ∧ (∀ j : Nat, (j : Int) < z43.toInt → (z45 j).toInt = n2.toInt * 64 + (n0.toInt + 8 * ((j : Int) + 1))) ∧ (n3.toInt < 0) ∧ (r = (-1)) ∧ (u = [])) ∨ (∃ (z43 : Int32) (z44 : Int32) (z45 : Nat → Int32), (0 ≤ n0.toInt ∧ n0.toInt ≤ 63) ∧ (0 ≤ n1.toInt ∧ n1.toInt ≤ 3) ∧ (0 ≤ n2.toInt ∧ n2.toInt ≤ 23) ∧ (n1.toInt = 2) ∧ (z43.toInt = 7 - n0.toInt / 8) ∧ (0 ≤ z43.toInt ∧ z43.toInt ≤ 7) ∧ (0 ≤ z44.toInt ∧ z44.toInt ≤ 63) ∧ (∀ j : Nat, (j : Int) < z43.toInt → (z45 j).toInt = n2.toInt * 64 + (n0.toInt + 8 * ((j : Int) + 1))) ∧ (n3.toInt > 4) ∧ (r = (-1)) ∧ (u = [])) ∨ (∃ (z55 : Int32) (z56 : Int32) (z57 : Nat → Int32), (0 ≤ n0.toInt ∧ n0.toInt ≤ 63) ∧ (0 ≤ n1.toInt ∧ n1.toInt ≤ 3) ∧ (0 ≤ n2.toInt ∧ n2.toInt ≤ 23) ∧ (n1.toInt = 3) ∧ (z55.toInt = n0.toInt % 8) ∧ (0 ≤ z55.toInt ∧ z55.toInt ≤ 7) ∧ (0 ≤ z56.toInt ∧ z56.toInt ≤ 63) ∧ (∀ j : Nat, (j : Int) < z55.toInt → (z57 j).toInt = n2.toInt * 64 + (n0.toInt - ((j : Int) + 1))) ∧ (n3.toInt = 0) ∧ (r = (-1)) ∧ (u = [])) ∨ (∃ (z55 : Int32) (z56 : Int32) (z57 : Nat → Int32), (0 ≤ n0.toInt ∧ n0.toInt ≤ 63) ∧ (0 ≤ n1.toInt ∧ n1.toInt ≤ 3) ∧ (0 ≤ n2.toInt ∧ n2.toInt ≤ 23) ∧ (n1.toInt = 3) ∧ (z55.toInt = n0.toInt % 8) ∧ (0 ≤ z55.toInt ∧ z55.toInt ≤ 7) ∧ (0 ≤ z56.toInt ∧ z56.toInt ≤ 63) ∧ (∀ j : Nat, (j : Int) < z55.toInt → (z57 j).toInt = n2.toInt * 64 + (n0.toInt - ((j : Int) + 1))) ∧ (n3.toInt = 1) ∧ (r = z55) ∧ (u = [])) ∨ (∃ (z55 : Int32) (z56 : Int32) (z57 : Nat → Int32), (0 ≤ n0.toInt ∧ n0.toInt ≤ 63) ∧ (0 ≤ n1.toInt ∧ n1.toInt ≤ 3) ∧ (0 ≤ n2.toInt ∧ n2.toInt ≤ 23) ∧ (n1.toInt = 3) ∧ (z55.toInt = n0.toInt % 8) ∧ (0 ≤ z55.toInt ∧ z55.toInt ≤ 7) ∧ (0 ≤ z56.toInt ∧ z56.toInt ≤ 63) ∧ (∀ j : Nat, (j : Int) < z55.toInt → (z57 j).toInt = n2.toInt * 64 + (n0.toInt - ((j : Int) + 1))) ∧ (n3.toInt = 2) ∧ (z55.toInt ≠ 0) ∧ (((z57 (z55 - 1).toNatClampNeg) / 64).toInt = ((n2.toInt * 64 + (n0.toInt - ((z55.toInt - 1) + 1))) / 64)) ∧ (r = ((z57 (z55 - 1).toNatClampNeg) / 64)) ∧ (u = [])) ∨ (∃ (z55 : Int32) (z56 : Int32) (z57 : Nat → Int32), (0 ≤ n0.toInt ∧ n0.toInt ≤ 63) ∧ (0 ≤ n1.toInt ∧ n1.toInt ≤ 3) ∧ (0 ≤ n2.toInt ∧ n2.toInt ≤ 23) ∧ (n1.toInt = 3) ∧ (z55.toInt = n0.toInt % 8) ∧ (0 ≤ z55.toInt ∧ z55.toInt ≤ 7) ∧ (0 ≤ z56.toInt ∧ z56.toInt ≤ 63) ∧ (∀ j : Nat, (j : Int) < z55.toInt → (z57 j).toInt = n2.toInt * 64 + (n0.toInt - ((j : Int) + 1))) ∧ (n3.toInt = 2) ∧ (z55.toInt = 0) ∧ (r = (-1)) ∧ (u = [])) ∨ (∃ (z55 : Int32) (z56 : Int32) (z57 : Nat → Int32), (0 ≤ n0.toInt ∧ n0.toInt ≤ 63) ∧ (0 ≤ n1.toInt ∧ n1.toInt ≤ 3) ∧ (0 ≤ n2.toInt ∧ n2.toInt ≤ 23) ∧ (n1.toInt = 3) ∧ (z55.toInt = n0.toInt % 8) ∧ (0 ≤ z55.toInt ∧ z55.toInt ≤ 7) ∧ (0 ≤ z56.toInt ∧ z56.toInt ≤ 63) ∧ (∀ j : Nat, (j : Int) < z55.toInt → (z57 j).toInt = n2.toInt * 64 + (n0.toInt - ((j : Int) + 1))) ∧ (n3.toInt = 3) ∧ (r = 1000000) ∧ (u = [])) ∨ (∃ (z55 : Int32) (z56 : Int32) (z57 : Nat → Int32), (0 ≤ n0.toInt ∧ n0.toInt ≤ 63) ∧ (0 ≤ n1.toInt ∧ n1.toInt ≤ 3) ∧ (0 ≤ n2.toInt ∧ n2.toInt ≤ 23) ∧ (n1.toInt = 3) ∧ (z55.toInt = n0.toInt % 8) ∧ (0 ≤ z55.toInt ∧ z55.toInt ≤ 7) ∧ (0 ≤ z56.toInt ∧ z56.toInt ≤ 63) ∧ (∀ j : Nat, (j : Int) < z55.toInt → (z57 j).toInt = n2.toInt * 64 + (n0.toInt - ((j : Int) + 1))) ∧ (n3.toInt = 4) ∧ (r = 0) ∧ (u = [])) ∨ (∃ (z55 : Int32) (z56 : Int32) (z57 : Nat → Int32), (0 ≤ n0.toInt ∧ n0.toInt ≤ 63) ∧ (0 ≤ n1.toInt ∧ n1.toInt ≤ 3) ∧ (0 ≤ n2.toInt ∧ n2.toInt ≤ 23) ∧ (n1.toInt = 3) ∧ (z55.toInt = n0.toInt % 8) ∧ (0 ≤ z55.toInt ∧ z55.toInt ≤ 7) ∧ (0 ≤ z56.toInt ∧ z56.toInt ≤ 63) ∧ (∀ j : Nat, (j : Int) < z55.toInt → (z57 j).toInt = n2.toInt * 64 + (n0.toInt - ((j : Int) + 1))) ∧ (n3.toInt < 0) ∧ (r = (-1)) ∧ (u = [])) ∨ (∃ (z55 : Int32) (z56 : Int32) (z57 : Nat → Int32), (0 ≤ n0.toInt ∧ n0.toInt ≤ 63) ∧ (0 ≤ n1.toInt ∧ n1.toInt ≤ 3) ∧ (0 ≤ n2.toInt ∧ n2.toInt ≤ 23) ∧ (n1.toInt = 3) ∧ (z55.toInt = n0.toInt % 8) ∧ (0 ≤ z55.toInt ∧ z55.toInt ≤ 7) ∧ (0 ≤ z56.toInt ∧ z56.toInt ≤ 63) ∧ (∀ j : Nat, (j : Int) < z55.toInt → (z57 j).toInt = n2.toInt * 64 + (n0.toInt - ((j : Int) + 1))) ∧ (n3.toInt > 4) ∧ (r = (-1)) ∧ (u = []))) (g5_B G (va_A [(a0, .inr (12, [.int 0, .int 0, .ref a1, .ref a2, .ref a3, .ref a4, .int 0, .ref a5, .int 0, .int 0, .int 0, .int 0, .long 0, .int (-1), .int 0, .int 0, .ref a6, .int 0, .ref a7, .ref a8, .int 0, .ref a9, .ref a10, .int 0, .int 0, .ref a11, .ref a12, .int 0, .ref a13, .ref a14, .int 0, .long 0, .long 0, .int 0, .int 0, .int 0, .int 0, .int 0, .ref a15, .int 0, .int 0, .ref a16, .int 0, .ref a17, .ref a18, .ref a19, .int 0, .ref a20, .ref a21, .long 0, .ref a22, .int 0])), (a2, .inl (G.2 0, 5740, .inl (upd (upd (upd (fun _ => 0) 3 (-1)) 4 1000) 6 (-1)))), (a15, .inl (G.2 0, 200, .inl (fun _ => 0)))] sz)) (va_A [(a0, .inr (12, [.int 0, .int 0, .ref a1, .ref a2, .ref a3, .ref a4, .int 0, .ref a5, .int 0, .int 0, .int 0, .int 0, .long 0, .int (-1), .int 0, .int 0, .ref a6, .int 0, .ref a7, .ref a8, .int 0, .ref a9, .ref a10, .int 0, .int 0, .ref a11, .ref a12, .int 0, .ref a13, .ref a14, .int 0, .long 0, .long 0, .int 0, .int 0, .int 0, .int 0, .int 0, .ref a15, .int 0, .int 0, .ref a16, .int 0, .ref a17, .ref a18, .ref a19, .int 0, .ref a20, .ref a21, .long 0, .ref a22, .int 0])), (a2, .inl (G.2 0, 5740, .inl (upd (upd (upd (fun _ => 0) 3 (-1)) 4 1000) 6 (-1)))), (a15, .inl (G.2 0, 200, .inl (fun _ => 0)))] sz)) 0 0 (va_A [(a0, .inr (12, [.int 0, .int 0, .ref a1, .ref a2, .ref a3, .ref a4, .int 0, .ref a5, .int 0, .int 0, .int 0, .int 0, .long 0, .int (-1), .int 0, .int 0, .ref a6, .int 0, .ref a7, .ref a8, .int 0, .ref a9, .ref a10, .int 0, .int 0, .ref a11, .ref a12, .int 0, .ref a13, .ref a14, .int 0, .long 0, .long 0, .int 0, .int 0, .int 0, .int 0, .int 0, .ref a15, .int 0, .int 0, .ref a16, .int 0, .ref a17, .ref a18, .ref a19, .int 0, .ref a20, .ref a21, .long 0, .ref a22, .int 0])), (a2, .inl (G.2 0, 5740, .inl (upd (upd (upd (fun _ => 0) 3 (-1)) 4 1000) 6 (-1)))), (a15, .inl (G.2 0, 200, .inl (fun _ => 0)))] sz) := by
  refine Met.ofW (cc := cX12_look) (maxL := 5) (ret := (some .int)) (by decide) rfl ?_
  intro p e s m args below meth c s₁ B hml hv
  obtain ⟨rfl, hsz, hP, hK, hD0, hN, hT⟩ := hv
  have hx := B.exec
  have hb := B.bytes
  have hr := B.returns
  have hts : ∀ w ∈ tblG, w.before _ s = true := fun w h => atoms_spec (ws := (wsG yX12_look cX12_look 5 (some .int))) B.pre w (List.mem_cons_of_mem _ h)
  have hown : s.vm.findClass RX12 = some m.cls := findClass_of_methodNamed B.named
  have hlocks := B.notSynchronized
  subst hsz
  have hD := hD0.self (sz := s.heap.size)
  generalize hAe : va_A [(a0, .inr (12, [.int 0, .int 0, .ref a1, .ref a2, .ref a3, .ref a4, .int 0, .ref a5, .int 0, .int 0, .int 0, .int 0, .long 0, .int (-1), .int 0, .int 0, .ref a6, .int 0, .ref a7, .ref a8, .int 0, .ref a9, .ref a10, .int 0, .int 0, .ref a11, .ref a12, .int 0, .ref a13, .ref a14, .int 0, .long 0, .long 0, .int 0, .int 0, .int 0, .int 0, .int 0, .ref a15, .int 0, .int 0, .ref a16, .int 0, .ref a17, .ref a18, .ref a19, .int 0, .ref a20, .ref a21, .long 0, .ref a22, .int 0])), (a2, .inl (G.2 0, 5740, .inl (upd (upd (upd (fun _ => 0) 3 (-1)) 4 1000) 6 (-1)))), (a15, .inl (G.2 0, 200, .inl (fun _ => 0)))] s.heap.size = A at hD hT ⊢
  have hA : ∀ q : Nat, s.heap.size ≤ q → A q := fun q h => by rw [← hAe]; exact Or.inr h
  have hS : va_S A s.heap s.heap [] := va_S.rf
  have hP : va_P G.1 vwCl [(a0, .inr (12, [.int 0, .int 0, .ref a1, .ref a2, .ref a3, .ref a4, .int 0, .ref a5, .int 0, .int 0, .int 0, .int 0, .long 0, .int (-1), .int 0, .int 0, .ref a6, .int 0, .ref a7, .ref a8, .int 0, .ref a9, .ref a10, .int 0, .int 0, .ref a11, .ref a12, .int 0, .ref a13, .ref a14, .int 0, .long 0, .long 0, .int 0, .int 0, .int 0, .int 0, .int 0, .ref a15, .int 0, .int 0, .ref a16, .int 0, .ref a17, .ref a18, .ref a19, .int 0, .ref a20, .ref a21, .long 0, .ref a22, .int 0])), (a2, .inl (G.2 0, 5740, .inl (upd (upd (upd (fun _ => 0) 3 (-1)) 4 1000) 6 (-1)))), (a15, .inl (G.2 0, 200, .inl (fun _ => 0)))] s.heap := hP
  have hl := lv_entry ([.ref a0, .int n0, .int n1, .int n2, .int n3]) (n := 5) (Nat.le_of_ble_eq_true rfl)
  rw [lg_entry_eq]
  generalize (lg_sl ([.ref a0, .int n0, .int n1, .int n2, .int n3]) ++ List.replicate (5 - (lg_sl ([.ref a0, .int n0, .int n1, .int n2, .int n3])).length) Slot.unset).toArray = ls at hl ⊢
  have hl : lv_has ls 5 [(0, .ref a0), (1, .int n0), (2, .int n1), (3, .int n2), (4, .int n3)] := hl
  refine lv_aload_n hx hb dX12_look_0 rfl (lv_at hl 0 rfl) ?_
  refine lv_iconst (v := 0) hx hb dX12_look_1 (by decide) ?_
  refine va_put (D := G.1) (ci := 12) (v := .int 0) (ty := .int) (C := RX12) (T := TX12) (N := 52) hx hb hts inG_X12 tyX12 tyX12_ok nmX12 hown hK hP hD hS 0 rfl rfl 0 (by decide) (hts _ fl_X12_107) (fun _ h9 => h9) rfl (by decide +kernel) rfl rfl (Nat.le_of_ble_eq_true rfl) dX12_look_2 (fun H locs hP hD hS => ?_)
  have hP : va_P G.1 vwCl [(a0, .inr (12, [.int 0, .int 0, .ref a1, .ref a2, .ref a3, .ref a4, .int 0, .ref a5, .int 0, .int 0, .int 0, .int 0, .long 0, .int (-1), .int 0, .int 0, .ref a6, .int 0, .ref a7, .ref a8, .int 0, .ref a9, .ref a10, .int 0, .int 0, .ref a11, .ref a12, .int 0, .ref a13, .ref a14, .int 0, .long 0, .long 0, .int 0, .int 0, .int 0, .int 0, .int 0, .ref a15, .int 0, .int 0, .ref a16, .int 0, .ref a17, .ref a18, .ref a19, .int 0, .ref a20, .ref a21, .long 0, .ref a22, .int 0])), (a2, .inl (G.2 0, 5740, .inl (upd (upd (upd (fun _ => 0) 3 (-1)) 4 1000) 6 (-1)))), (a15, .inl (G.2 0, 200, .inl (fun _ => 0)))] H := hP
  have hD : va_D A [(a0, .inr (12, [.int 0, .int 0, .ref a1, .ref a2, .ref a3, .ref a4, .int 0, .ref a5, .int 0, .int 0, .int 0, .int 0, .long 0, .int (-1), .int 0, .int 0, .ref a6, .int 0, .ref a7, .ref a8, .int 0, .ref a9, .ref a10, .int 0, .int 0, .ref a11, .ref a12, .int 0, .ref a13, .ref a14, .int 0, .long 0, .long 0, .int 0, .int 0, .int 0, .int 0, .int 0, .ref a15, .int 0, .int 0, .ref a16, .int 0, .ref a17, .ref a18, .ref a19, .int 0, .ref a20, .ref a21, .long 0, .ref a22, .int 0])), (a2, .inl (G.2 0, 5740, .inl (upd (upd (upd (fun _ => 0) 3 (-1)) 4 1000) 6 (-1)))), (a15, .inl (G.2 0, 200, .inl (fun _ => 0)))] := hD
  refine lv_iload_n hx hb dX12_look_5 rfl (lv_at hl 1 rfl) ?_
  refine lv_iload_n hx hb dX12_look_6 rfl (lv_at hl 2 rfl) ?_
  refine lv_iload_n hx hb dX12_look_7 rfl (lv_at hl 3 rfl) ?_
  have hPc := hP.sub (ws' := []) [] rfl
  have hDc := hD.sub (ws' := []) [] (by decide) rfl
  have hFc := va_free (wc := []) hD hS hA [] rfl
  refine va_calli (va_runS (As := [.int n0, .int n1, .int n2]) (rest := []) ⟨hx, hb, hml, hown, hts⟩ (kX12_isLook l G H.size n0 n1 n2) (va_cwS 3 hts gS_X12_397 rfl rfl rfl hs_X12_isLook ⟨Nat.le_of_ble_eq_true rfl, Nat.le_of_ble_eq_true rfl⟩) (g5_preS hPc hK hDc hN hT hS hFc) rfl rfl hl.1 rfl (lv_room (Nat.le_of_ble_eq_true rfl)) dX12_look_8 ⟨Nat.le_of_ble_eq_true rfl, Nat.le_of_ble_eq_true rfl⟩) hS (fun q _ h => hFc q h) hFc (fun r u t H1 locs ht hvm hw hB hz1 hk1 hS => ?_)
  obtain ⟨hP1, hD1⟩ := hB
  rw [ht] at hP1
  rcases hw with ⟨i_1, rfl, rfl⟩ | ⟨i_2, i_3, rfl, rfl⟩ | ⟨i_4, i_5, i_6, rfl, rfl⟩ | ⟨i_7, i_8, i_9, rfl, rfl⟩
  ·
    have hP := g5_same hP hk1
    generalize H1 = H at hP hS ⊢
    refine lv_if_ne (tgt := 16) hx hb dX12_look_11 (by decide) (fun c_10 => ?_) (fun c_10 => ?_)
    ·
      exact absurd c_10 (by decide)
    ·
      refine lv_iconst (v := (-1)) hx hb dX12_look_14 (by decide) ?_
      have hP := hP.sub (ws' := []) [] rfl
      have hD := hD.sub (ws' := []) [] (by decide) rfl
      exact W.iret (v := (-1)) hx hb hr (fun t ht hW => ⟨⟨(-1), [], rfl, Or.inl (⟨i_1, rfl, rfl⟩), by rw [ht]; exact hP, hD⟩, hS.F ht⟩) hS.2.2 dX12_look_15
  ·
    have hP := g5_same hP hk1
    generalize H1 = H at hP hS ⊢
    refine lv_if_ne (tgt := 16) hx hb dX12_look_11 (by decide) (fun c_11 => ?_) (fun c_11 => ?_)
    ·
      exact absurd c_11 (by decide)
    ·
      refine lv_iconst (v := (-1)) hx hb dX12_look_14 (by decide) ?_
      have hP := hP.sub (ws' := []) [] rfl
      have hD := hD.sub (ws' := []) [] (by decide) rfl
      exact W.iret (v := (-1)) hx hb hr (fun t ht hW => ⟨⟨(-1), [], rfl, Or.inr (Or.inl (⟨i_2, i_3, rfl, rfl⟩)), by rw [ht]; exact hP, hD⟩, hS.F ht⟩) hS.2.2 dX12_look_15
  ·
    have hP := g5_same hP hk1
    generalize H1 = H at hP hS ⊢
    refine lv_if_ne (tgt := 16) hx hb dX12_look_11 (by decide) (fun c_12 => ?_) (fun c_12 => ?_)
    ·
      exact absurd c_12 (by decide)
    ·
      refine lv_iconst (v := (-1)) hx hb dX12_look_14 (by decide) ?_
      have hP := hP.sub (ws' := []) [] rfl
      have hD := hD.sub (ws' := []) [] (by decide) rfl
      exact W.iret (v := (-1)) hx hb hr (fun t ht hW => ⟨⟨(-1), [], rfl, Or.inr (Or.inr (Or.inl (⟨i_4, i_5, i_6, rfl, rfl⟩))), by rw [ht]; exact hP, hD⟩, hS.F ht⟩) hS.2.2 dX12_look_15
  ·
    have hP := g5_same hP hk1
    generalize H1 = H at hP hS ⊢
    refine lv_if_ne (tgt := 16) hx hb dX12_look_11 (by decide) (fun c_13 => ?_) (fun c_13 => ?_)
    ·
      refine lv_aload_n hx hb dX12_look_16 rfl (lv_at hl 0 rfl) ?_
      refine lv_iload_n hx hb dX12_look_17 rfl (lv_at hl 1 rfl) ?_
      refine lv_iload_n hx hb dX12_look_18 rfl (lv_at hl 2 rfl) ?_
      refine lv_iload_n hx hb dX12_look_19 rfl (lv_at hl 3 rfl) ?_
      refine lv_iconst (v := 0) hx hb dX12_look_20 (by decide) ?_
      rcases (show n1.toInt = 0 ∨ n1.toInt = 1 ∨ n1.toInt = 2 ∨ n1.toInt = 3 by omega) with i_14 | i_14 | i_14 | i_14
      ·
        have e_14 : n1 = 0 := g5_toc (by decide) i_14
        subst e_14
        have hPc := hP.sub (ws' := [(a0, .inr (12, [.int 0, .int 0, .ref a1, .ref a2, .ref a3, .ref a4, .int 0, .ref a5, .int 0, .int 0, .int 0, .int 0, .long 0, .int (-1), .int 0, .int 0, .ref a6, .int 0, .ref a7, .ref a8, .int 0, .ref a9, .ref a10, .int 0, .int 0, .ref a11, .ref a12, .int 0, .ref a13, .ref a14, .int 0, .long 0, .long 0, .int 0, .int 0, .int 0, .int 0, .int 0, .ref a15, .int 0, .int 0, .ref a16, .int 0, .ref a17, .ref a18, .ref a19, .int 0, .ref a20, .ref a21, .long 0, .ref a22, .int 0])), (a2, .inl (G.2 0, 5740, .inl (upd (upd (upd (fun _ => 0) 3 (-1)) 4 1000) 6 (-1)))), (a15, .inl (G.2 0, 200, .inl (fun _ => 0)))]) [0, 1, 2] rfl
        have hDc := hD.sub (ws' := [(a0, .inr (12, [.int 0, .int 0, .ref a1, .ref a2, .ref a3, .ref a4, .int 0, .ref a5, .int 0, .int 0, .int 0, .int 0, .long 0, .int (-1), .int 0, .int 0, .ref a6, .int 0, .ref a7, .ref a8, .int 0, .ref a9, .ref a10, .int 0, .int 0, .ref a11, .ref a12, .int 0, .ref a13, .ref a14, .int 0, .long 0, .long 0, .int 0, .int 0, .int 0, .int 0, .int 0, .ref a15, .int 0, .int 0, .ref a16, .int 0, .ref a17, .ref a18, .ref a19, .int 0, .ref a20, .ref a21, .long 0, .ref a22, .int 0])), (a2, .inl (G.2 0, 5740, .inl (upd (upd (upd (fun _ => 0) 3 (-1)) 4 1000) 6 (-1)))), (a15, .inl (G.2 0, 200, .inl (fun _ => 0)))]) [0, 1, 2] (by decide) rfl
        have hFc := va_free (wc := [(a0, .inr (12, [.int 0, .int 0, .ref a1, .ref a2, .ref a3, .ref a4, .int 0, .ref a5, .int 0, .int 0, .int 0, .int 0, .long 0, .int (-1), .int 0, .int 0, .ref a6, .int 0, .ref a7, .ref a8, .int 0, .ref a9, .ref a10, .int 0, .int 0, .ref a11, .ref a12, .int 0, .ref a13, .ref a14, .int 0, .long 0, .long 0, .int 0, .int 0, .int 0, .int 0, .int 0, .ref a15, .int 0, .int 0, .ref a16, .int 0, .ref a17, .ref a18, .ref a19, .int 0, .ref a20, .ref a21, .long 0, .ref a22, .int 0])), (a2, .inl (G.2 0, 5740, .inl (upd (upd (upd (fun _ => 0) 3 (-1)) 4 1000) 6 (-1)))), (a15, .inl (G.2 0, 200, .inl (fun _ => 0)))]) hD hS hA [0, 1, 2] rfl
        refine va_callv (va_runV (As := [.int n0, .int 0, .int n2, .int 0]) (rest := []) ⟨hx, hb, hml, hown, hts⟩ (k_go0 l G a0 a2 a15 a1 a3 a4 a5 a6 a7 a8 a9 a10 a11 a12 a13 a14 a16 a17 a18 a19 a20 a21 a22 H.size n0 n2 0 0 0 0 0 0 0 0 (fun _ => 0) ⟨by omega, by omega⟩ ⟨by omega, by omega⟩) (cwV 4 hts gV_X12_401 rfl rfl rfl hv_X12_go ⟨Nat.le_of_ble_eq_true rfl, Nat.le_of_ble_eq_true rfl⟩) (g5_preV hPc hK hDc hN hT hS hFc (ci := 12) (q0 := 0) rfl rfl) rfl rfl hl.1 rfl (lv_room (Nat.le_of_ble_eq_true rfl)) dX12_look_21 ⟨Nat.le_of_ble_eq_true rfl, Nat.le_of_ble_eq_true rfl⟩) hS (fun q _ h => hFc q h) hFc (fun u t H1 locs ht hvm hw hB hz1 hk1 hS => ?_)
        obtain ⟨hP1, hD1⟩ := hB
        rw [ht] at hP1
        obtain ⟨z19, z20, z21, i_15, i_16, i_17, i_18, rfl⟩ := hw
        have i_15 : z19.toInt = n0.toInt / 8 := i_15
        have i_16 : 0 ≤ z19.toInt ∧ z19.toInt ≤ 7 := i_16
        have i_17 : 0 ≤ z20.toInt ∧ z20.toInt ≤ 63 := i_17
        have i_18 : ∀ j : Nat, (j : Int) < z19.toInt → (z21 j).toInt = n2.toInt * 64 + (n0.toInt - 8 * ((j : Int) + 1)) := i_18
        obtain ⟨hP, hD⟩ := va_join (wr := []) (w1 := [(a0, .inr (12, [.int 0, .int 0, .ref a1, .ref a2, .ref a3, .ref a4, .int 0, .ref a5, .int 0, .int 0, .int 0, .int 0, .long 0, .int (-1), .int 0, .int 0, .ref a6, .int 0, .ref a7, .ref a8, .int 0, .ref a9, .ref a10, .int 0, .int 0, .ref a11, .ref a12, .int 0, .ref a13, .ref a14, .int 0, .long 0, .long 0, .int z20, .int n2, .int 0, .int 1000000, .int z19, .ref a15, .int 0, .int (-1), .ref a16, .int 0, .ref a17, .ref a18, .ref a19, .int 0, .ref a20, .ref a21, .long 0, .ref a22, .int 0])), (a2, .inl (G.2 0, 5740, .inl (upd (upd (upd (fun _ => 0) 3 (-1)) 4 1000) 6 (-1)))), (a15, .inl (G.2 0, 200, .inl z21))]) hP hD [0, 1, 2] [] rfl rfl (by decide) (by decide) hk1 hFc hP1 hD1
        generalize H1 = H at hP hS ⊢
        have hP : va_P G.1 vwCl [(a0, .inr (12, [.int 0, .int 0, .ref a1, .ref a2, .ref a3, .ref a4, .int 0, .ref a5, .int 0, .int 0, .int 0, .int 0, .long 0, .int (-1), .int 0, .int 0, .ref a6, .int 0, .ref a7, .ref a8, .int 0, .ref a9, .ref a10, .int 0, .int 0, .ref a11, .ref a12, .int 0, .ref a13, .ref a14, .int 0, .long 0, .long 0, .int z20, .int n2, .int 0, .int 1000000, .int z19, .ref a15, .int 0, .int (-1), .ref a16, .int 0, .ref a17, .ref a18, .ref a19, .int 0, .ref a20, .ref a21, .long 0, .ref a22, .int 0])), (a2, .inl (G.2 0, 5740, .inl (upd (upd (upd (fun _ => 0) 3 (-1)) 4 1000) 6 (-1)))), (a15, .inl (G.2 0, 200, .inl z21))] H := hP
        have hD : va_D A [(a0, .inr (12, [.int 0, .int 0, .ref a1, .ref a2, .ref a3, .ref a4, .int 0, .ref a5, .int 0, .int 0, .int 0, .int 0, .long 0, .int (-1), .int 0, .int 0, .ref a6, .int 0, .ref a7, .ref a8, .int 0, .ref a9, .ref a10, .int 0, .int 0, .ref a11, .ref a12, .int 0, .ref a13, .ref a14, .int 0, .long 0, .long 0, .int z20, .int n2, .int 0, .int 1000000, .int z19, .ref a15, .int 0, .int (-1), .ref a16, .int 0, .ref a17, .ref a18, .ref a19, .int 0, .ref a20, .ref a21, .long 0, .ref a22, .int 0])), (a2, .inl (G.2 0, 5740, .inl (upd (upd (upd (fun _ => 0) 3 (-1)) 4 1000) 6 (-1)))), (a15, .inl (G.2 0, 200, .inl z21))] := hD
        refine lv_iload hx hb dX12_look_24 (lv_at hl 4 rfl) ?_
        rcases (show n3.toInt = 0 ∨ n3.toInt = 1 ∨ n3.toInt = 2 ∨ n3.toInt = 3 ∨ n3.toInt = 4 ∨ n3.toInt < 0 ∨ n3.toInt > 4 by omega) with s_22 | s_22 | s_22 | s_22 | s_22 | s_22 | s_22
        ·
          have i_22 : n3.toInt = 0 := by omega
          refine lv_tableIn (tgt := 60) hx hb dX12_look_26 (by omega) (by omega) (by rw [s_22]; rfl) (by decide) ?_
          refine lv_aload_n hx hb dX12_look_60 rfl (lv_at hl 0 rfl) ?_
          refine va_get (D := G.1) (ci := 12) (v := .int (-1)) (C := RX12) (T := TX12) (N := 52) hx hb hts inG_X12 hown hK hP 0 rfl rfl 40 (by decide) (hts _ fl_X12_371) (fun _ h9 => h9) rfl dX12_look_61 ?_
          have hP := hP.sub (ws' := []) [] rfl
          have hD := hD.sub (ws' := []) [] (by decide) rfl
          exact W.iret (v := (-1)) hx hb hr (fun t ht hW => ⟨⟨(-1), [], rfl, Or.inr (Or.inr (Or.inr (Or.inl (⟨z19, z20, z21, i_7, i_8, i_9, i_14, i_15, i_16, i_17, i_18, i_22, rfl, rfl⟩)))), by rw [ht]; exact hP, hD⟩, hS.F ht⟩) hS.2.2 dX12_look_64
        ·
          have i_22 : n3.toInt = 1 := by omega
          refine lv_tableIn (tgt := 65) hx hb dX12_look_26 (by omega) (by omega) (by rw [s_22]; rfl) (by decide) ?_
          refine lv_aload_n hx hb dX12_look_65 rfl (lv_at hl 0 rfl) ?_
          refine va_get (D := G.1) (ci := 12) (v := .int z19) (C := RX12) (T := TX12) (N := 52) hx hb hts inG_X12 hown hK hP 0 rfl rfl 37 (by decide) (hts _ fl_X12_358) (fun _ h9 => h9) rfl dX12_look_66 ?_
          have hP := hP.sub (ws' := []) [] rfl
          have hD := hD.sub (ws' := []) [] (by decide) rfl
          exact W.iret (v := z19) hx hb hr (fun t ht hW => ⟨⟨z19, [], rfl, Or.inr (Or.inr (Or.inr (Or.inr (Or.inl (⟨z19, z20, z21, i_7, i_8, i_9, i_14, i_15, i_16, i_17, i_18, i_22, rfl, rfl⟩))))), by rw [ht]; exact hP, hD⟩, hS.F ht⟩) hS.2.2 dX12_look_69
        ·
          have i_22 : n3.toInt = 2 := by omega
          refine lv_tableIn (tgt := 70) hx hb dX12_look_26 (by omega) (by omega) (by rw [s_22]; rfl) (by decide) ?_
          refine lv_aload_n hx hb dX12_look_70 rfl (lv_at hl 0 rfl) ?_
          refine va_get (D := G.1) (ci := 12) (v := .int z19) (C := RX12) (T := TX12) (N := 52) hx hb hts inG_X12 hown hK hP 0 rfl rfl 37 (by decide) (hts _ fl_X12_358) (fun _ h9 => h9) rfl dX12_look_71 ?_
          refine lv_if_ne (tgt := 81) hx hb dX12_look_74 (by decide) (fun c_23 => ?_) (fun c_23 => ?_)
          ·
            have i_23 : z19.toInt ≠ 0 := by have z := g5_ne (a := z19.toInt) (b := 0) (by rfl) (by decide) c_23; omega
            refine lv_aload_n hx hb dX12_look_81 rfl (lv_at hl 0 rfl) ?_
            refine va_get (D := G.1) (ci := 12) (v := .ref a15) (C := RX12) (T := TX12) (N := 52) hx hb hts inG_X12 hown hK hP 0 rfl rfl 38 (by decide) (hts _ fl_X12_82) (fun _ h9 => h9) rfl dX12_look_82 ?_
            refine lv_aload_n hx hb dX12_look_85 rfl (lv_at hl 0 rfl) ?_
            refine va_get (D := G.1) (ci := 12) (v := .int z19) (C := RX12) (T := TX12) (N := 52) hx hb hts inG_X12 hown hK hP 0 rfl rfl 37 (by decide) (hts _ fl_X12_358) (fun _ h9 => h9) rfl dX12_look_86 ?_
            refine lv_iconst (v := 1) hx hb dX12_look_89 (by decide) ?_
            refine lv_isub hx hb dX12_look_90 ?_
            have t_24 : (z19 - 1).toInt = z19.toInt - 1 := g5_isub (a := z19.toInt) (b := 1) (by rfl) (by decide) (by omega) (by omega)
            have tz_25 := g5_clamp (z19 - 1)
            have t_25 := i_18 ((z19 - 1).toNatClampNeg) (by omega)
            refine va_iald hx hb hK hP 2 0 rfl rfl (i := (z19 - 1)) (vp_in_iff.mpr ⟨by omega, by omega⟩) dX12_look_91 ?_
            refine lv_bipush (v := 64) hx hb dX12_look_92 (by decide) ?_
            refine lv_idiv hx hb dX12_look_94 (by decide) ?_
            have t_26 : ((z21 (z19 - 1).toNatClampNeg) / 64).toInt = (z21 (z19 - 1).toNatClampNeg).toInt / 64 := g5_idiv (a := (z21 (z19 - 1).toNatClampNeg).toInt) (b := 64) rfl (by decide) (by omega) (by decide)
            have hP := hP.sub (ws' := []) [] rfl
            have hD := hD.sub (ws' := []) [] (by decide) rfl
            exact W.iret (v := ((z21 (z19 - 1).toNatClampNeg) / 64)) hx hb hr (fun t ht hW => ⟨⟨((z21 (z19 - 1).toNatClampNeg) / 64), [], rfl, Or.inr (Or.inr (Or.inr (Or.inr (Or.inr (Or.inl (⟨z19, z20, z21, i_7, i_8, i_9, i_14, i_15, i_16, i_17, i_18, i_22, i_23, (by omega), rfl, rfl⟩)))))), by rw [ht]; exact hP, hD⟩, hS.F ht⟩) hS.2.2 dX12_look_95
          ·
            have i_23 : z19.toInt = 0 := by have z := g5_neN (a := z19.toInt) (b := 0) (by rfl) (by decide) c_23; omega
            refine lv_iconst (v := (-1)) hx hb dX12_look_77 (by decide) ?_
            refine lv_goto (tgt := 95) hx hb dX12_look_78 (by decide) ?_
            have hP := hP.sub (ws' := []) [] rfl
            have hD := hD.sub (ws' := []) [] (by decide) rfl
            exact W.iret (v := (-1)) hx hb hr (fun t ht hW => ⟨⟨(-1), [], rfl, Or.inr (Or.inr (Or.inr (Or.inr (Or.inr (Or.inr (Or.inl (⟨z19, z20, z21, i_7, i_8, i_9, i_14, i_15, i_16, i_17, i_18, i_22, i_23, rfl, rfl⟩))))))), by rw [ht]; exact hP, hD⟩, hS.F ht⟩) hS.2.2 dX12_look_95
        ·
          have i_22 : n3.toInt = 3 := by omega
          refine lv_tableIn (tgt := 96) hx hb dX12_look_26 (by omega) (by omega) (by rw [s_22]; rfl) (by decide) ?_
          refine lv_aload_n hx hb dX12_look_96 rfl (lv_at hl 0 rfl) ?_
          refine va_get (D := G.1) (ci := 12) (v := .int 1000000) (C := RX12) (T := TX12) (N := 52) hx hb hts inG_X12 hown hK hP 0 rfl rfl 36 (by decide) (hts _ fl_X12_361) (fun _ h9 => h9) rfl dX12_look_97 ?_
          have hP := hP.sub (ws' := []) [] rfl
          have hD := hD.sub (ws' := []) [] (by decide) rfl
          exact W.iret (v := 1000000) hx hb hr (fun t ht hW => ⟨⟨1000000, [], rfl, Or.inr (Or.inr (Or.inr (Or.inr (Or.inr (Or.inr (Or.inr (Or.inl (⟨z19, z20, z21, i_7, i_8, i_9, i_14, i_15, i_16, i_17, i_18, i_22, rfl, rfl⟩)))))))), by rw [ht]; exact hP, hD⟩, hS.F ht⟩) hS.2.2 dX12_look_100
        ·
          have i_22 : n3.toInt = 4 := by omega
          refine lv_tableIn (tgt := 101) hx hb dX12_look_26 (by omega) (by omega) (by rw [s_22]; rfl) (by decide) ?_
          refine lv_aload_n hx hb dX12_look_101 rfl (lv_at hl 0 rfl) ?_
          refine va_get (D := G.1) (ci := 12) (v := .int 0) (C := RX12) (T := TX12) (N := 52) hx hb hts inG_X12 hown hK hP 0 rfl rfl 39 (by decide) (hts _ fl_X12_368) (fun _ h9 => h9) rfl dX12_look_102 ?_
          have hP := hP.sub (ws' := []) [] rfl
          have hD := hD.sub (ws' := []) [] (by decide) rfl
          exact W.iret (v := 0) hx hb hr (fun t ht hW => ⟨⟨0, [], rfl, Or.inr (Or.inr (Or.inr (Or.inr (Or.inr (Or.inr (Or.inr (Or.inr (Or.inl (⟨z19, z20, z21, i_7, i_8, i_9, i_14, i_15, i_16, i_17, i_18, i_22, rfl, rfl⟩))))))))), by rw [ht]; exact hP, hD⟩, hS.F ht⟩) hS.2.2 dX12_look_105
        ·
          have i_22 : n3.toInt < 0 := by omega
          refine lv_tableOut (tgt := 106) hx hb dX12_look_26 (by omega) (by decide) ?_
          refine lv_iconst (v := (-1)) hx hb dX12_look_106 (by decide) ?_
          have hP := hP.sub (ws' := []) [] rfl
          have hD := hD.sub (ws' := []) [] (by decide) rfl
          exact W.iret (v := (-1)) hx hb hr (fun t ht hW => ⟨⟨(-1), [], rfl, Or.inr (Or.inr (Or.inr (Or.inr (Or.inr (Or.inr (Or.inr (Or.inr (Or.inr (Or.inl (⟨z19, z20, z21, i_7, i_8, i_9, i_14, i_15, i_16, i_17, i_18, i_22, rfl, rfl⟩)))))))))), by rw [ht]; exact hP, hD⟩, hS.F ht⟩) hS.2.2 dX12_look_107
        ·
          have i_22 : n3.toInt > 4 := by omega
          refine lv_tableOut (tgt := 106) hx hb dX12_look_26 (by omega) (by decide) ?_
          refine lv_iconst (v := (-1)) hx hb dX12_look_106 (by decide) ?_
          have hP := hP.sub (ws' := []) [] rfl
          have hD := hD.sub (ws' := []) [] (by decide) rfl
          exact W.iret (v := (-1)) hx hb hr (fun t ht hW => ⟨⟨(-1), [], rfl, Or.inr (Or.inr (Or.inr (Or.inr (Or.inr (Or.inr (Or.inr (Or.inr (Or.inr (Or.inr (Or.inl (⟨z19, z20, z21, i_7, i_8, i_9, i_14, i_15, i_16, i_17, i_18, i_22, rfl, rfl⟩))))))))))), by rw [ht]; exact hP, hD⟩, hS.F ht⟩) hS.2.2 dX12_look_107
      ·
        have e_14 : n1 = 1 := g5_toc (by decide) i_14
        subst e_14
        have hPc := hP.sub (ws' := [(a0, .inr (12, [.int 0, .int 0, .ref a1, .ref a2, .ref a3, .ref a4, .int 0, .ref a5, .int 0, .int 0, .int 0, .int 0, .long 0, .int (-1), .int 0, .int 0, .ref a6, .int 0, .ref a7, .ref a8, .int 0, .ref a9, .ref a10, .int 0, .int 0, .ref a11, .ref a12, .int 0, .ref a13, .ref a14, .int 0, .long 0, .long 0, .int 0, .int 0, .int 0, .int 0, .int 0, .ref a15, .int 0, .int 0, .ref a16, .int 0, .ref a17, .ref a18, .ref a19, .int 0, .ref a20, .ref a21, .long 0, .ref a22, .int 0])), (a2, .inl (G.2 0, 5740, .inl (upd (upd (upd (fun _ => 0) 3 (-1)) 4 1000) 6 (-1)))), (a15, .inl (G.2 0, 200, .inl (fun _ => 0)))]) [0, 1, 2] rfl
        have hDc := hD.sub (ws' := [(a0, .inr (12, [.int 0, .int 0, .ref a1, .ref a2, .ref a3, .ref a4, .int 0, .ref a5, .int 0, .int 0, .int 0, .int 0, .long 0, .int (-1), .int 0, .int 0, .ref a6, .int 0, .ref a7, .ref a8, .int 0, .ref a9, .ref a10, .int 0, .int 0, .ref a11, .ref a12, .int 0, .ref a13, .ref a14, .int 0, .long 0, .long 0, .int 0, .int 0, .int 0, .int 0, .int 0, .ref a15, .int 0, .int 0, .ref a16, .int 0, .ref a17, .ref a18, .ref a19, .int 0, .ref a20, .ref a21, .long 0, .ref a22, .int 0])), (a2, .inl (G.2 0, 5740, .inl (upd (upd (upd (fun _ => 0) 3 (-1)) 4 1000) 6 (-1)))), (a15, .inl (G.2 0, 200, .inl (fun _ => 0)))]) [0, 1, 2] (by decide) rfl
        have hFc := va_free (wc := [(a0, .inr (12, [.int 0, .int 0, .ref a1, .ref a2, .ref a3, .ref a4, .int 0, .ref a5, .int 0, .int 0, .int 0, .int 0, .long 0, .int (-1), .int 0, .int 0, .ref a6, .int 0, .ref a7, .ref a8, .int 0, .ref a9, .ref a10, .int 0, .int 0, .ref a11, .ref a12, .int 0, .ref a13, .ref a14, .int 0, .long 0, .long 0, .int 0, .int 0, .int 0, .int 0, .int 0, .ref a15, .int 0, .int 0, .ref a16, .int 0, .ref a17, .ref a18, .ref a19, .int 0, .ref a20, .ref a21, .long 0, .ref a22, .int 0])), (a2, .inl (G.2 0, 5740, .inl (upd (upd (upd (fun _ => 0) 3 (-1)) 4 1000) 6 (-1)))), (a15, .inl (G.2 0, 200, .inl (fun _ => 0)))]) hD hS hA [0, 1, 2] rfl
        refine va_callv (va_runV (As := [.int n0, .int 1, .int n2, .int 0]) (rest := []) ⟨hx, hb, hml, hown, hts⟩ (k_go1 l G a0 a2 a15 a1 a3 a4 a5 a6 a7 a8 a9 a10 a11 a12 a13 a14 a16 a17 a18 a19 a20 a21 a22 H.size n0 n2 0 0 0 0 0 0 0 0 (fun _ => 0) ⟨by omega, by omega⟩ ⟨by omega, by omega⟩) (cwV 4 hts gV_X12_401 rfl rfl rfl hv_X12_go ⟨Nat.le_of_ble_eq_true rfl, Nat.le_of_ble_eq_true rfl⟩) (g5_preV hPc hK hDc hN hT hS hFc (ci := 12) (q0 := 0) rfl rfl) rfl rfl hl.1 rfl (lv_room (Nat.le_of_ble_eq_true rfl)) dX12_look_21 ⟨Nat.le_of_ble_eq_true rfl, Nat.le_of_ble_eq_true rfl⟩) hS (fun q _ h => hFc q h) hFc (fun u t H1 locs ht hvm hw hB hz1 hk1 hS => ?_)
        obtain ⟨hP1, hD1⟩ := hB
        rw [ht] at hP1
        obtain ⟨z31, z32, z33, i_27, i_28, i_29, i_30, rfl⟩ := hw
        have i_27 : z31.toInt = 7 - n0.toInt % 8 := i_27
        have i_28 : 0 ≤ z31.toInt ∧ z31.toInt ≤ 7 := i_28
        have i_29 : 0 ≤ z32.toInt ∧ z32.toInt ≤ 63 := i_29
        have i_30 : ∀ j : Nat, (j : Int) < z31.toInt → (z33 j).toInt = n2.toInt * 64 + (n0.toInt + ((j : Int) + 1)) := i_30
        obtain ⟨hP, hD⟩ := va_join (wr := []) (w1 := [(a0, .inr (12, [.int 0, .int 0, .ref a1, .ref a2, .ref a3, .ref a4, .int 0, .ref a5, .int 0, .int 0, .int 0, .int 0, .long 0, .int (-1), .int 0, .int 0, .ref a6, .int 0, .ref a7, .ref a8, .int 0, .ref a9, .ref a10, .int 0, .int 0, .ref a11, .ref a12, .int 0, .ref a13, .ref a14, .int 0, .long 0, .long 0, .int z32, .int n2, .int 1, .int 1000000, .int z31, .ref a15, .int 0, .int (-1), .ref a16, .int 0, .ref a17, .ref a18, .ref a19, .int 0, .ref a20, .ref a21, .long 0, .ref a22, .int 0])), (a2, .inl (G.2 0, 5740, .inl (upd (upd (upd (fun _ => 0) 3 (-1)) 4 1000) 6 (-1)))), (a15, .inl (G.2 0, 200, .inl z33))]) hP hD [0, 1, 2] [] rfl rfl (by decide) (by decide) hk1 hFc hP1 hD1
        generalize H1 = H at hP hS ⊢
        have hP : va_P G.1 vwCl [(a0, .inr (12, [.int 0, .int 0, .ref a1, .ref a2, .ref a3, .ref a4, .int 0, .ref a5, .int 0, .int 0, .int 0, .int 0, .long 0, .int (-1), .int 0, .int 0, .ref a6, .int 0, .ref a7, .ref a8, .int 0, .ref a9, .ref a10, .int 0, .int 0, .ref a11, .ref a12, .int 0, .ref a13, .ref a14, .int 0, .long 0, .long 0, .int z32, .int n2, .int 1, .int 1000000, .int z31, .ref a15, .int 0, .int (-1), .ref a16, .int 0, .ref a17, .ref a18, .ref a19, .int 0, .ref a20, .ref a21, .long 0, .ref a22, .int 0])), (a2, .inl (G.2 0, 5740, .inl (upd (upd (upd (fun _ => 0) 3 (-1)) 4 1000) 6 (-1)))), (a15, .inl (G.2 0, 200, .inl z33))] H := hP
        have hD : va_D A [(a0, .inr (12, [.int 0, .int 0, .ref a1, .ref a2, .ref a3, .ref a4, .int 0, .ref a5, .int 0, .int 0, .int 0, .int 0, .long 0, .int (-1), .int 0, .int 0, .ref a6, .int 0, .ref a7, .ref a8, .int 0, .ref a9, .ref a10, .int 0, .int 0, .ref a11, .ref a12, .int 0, .ref a13, .ref a14, .int 0, .long 0, .long 0, .int z32, .int n2, .int 1, .int 1000000, .int z31, .ref a15, .int 0, .int (-1), .ref a16, .int 0, .ref a17, .ref a18, .ref a19, .int 0, .ref a20, .ref a21, .long 0, .ref a22, .int 0])), (a2, .inl (G.2 0, 5740, .inl (upd (upd (upd (fun _ => 0) 3 (-1)) 4 1000) 6 (-1)))), (a15, .inl (G.2 0, 200, .inl z33))] := hD
        refine lv_iload hx hb dX12_look_24 (lv_at hl 4 rfl) ?_
        rcases (show n3.toInt = 0 ∨ n3.toInt = 1 ∨ n3.toInt = 2 ∨ n3.toInt = 3 ∨ n3.toInt = 4 ∨ n3.toInt < 0 ∨ n3.toInt > 4 by omega) with s_34 | s_34 | s_34 | s_34 | s_34 | s_34 | s_34
        ·
          have i_34 : n3.toInt = 0 := by omega
          refine lv_tableIn (tgt := 60) hx hb dX12_look_26 (by omega) (by omega) (by rw [s_34]; rfl) (by decide) ?_
          refine lv_aload_n hx hb dX12_look_60 rfl (lv_at hl 0 rfl) ?_
          refine va_get (D := G.1) (ci := 12) (v := .int (-1)) (C := RX12) (T := TX12) (N := 52) hx hb hts inG_X12 hown hK hP 0 rfl rfl 40 (by decide) (hts _ fl_X12_371) (fun _ h9 => h9) rfl dX12_look_61 ?_
          have hP := hP.sub (ws' := []) [] rfl
          have hD := hD.sub (ws' := []) [] (by decide) rfl
          exact W.iret (v := (-1)) hx hb hr (fun t ht hW => ⟨⟨(-1), [], rfl, Or.inr (Or.inr (Or.inr (Or.inr (Or.inr (Or.inr (Or.inr (Or.inr (Or.inr (Or.inr (Or.inr (Or.inl (⟨z31, z32, z33, i_7, i_8, i_9, i_14, i_27, i_28, i_29, i_30, i_34, rfl, rfl⟩)))))))))))), by rw [ht]; exact hP, hD⟩, hS.F ht⟩) hS.2.2 dX12_look_64
        ·
          have i_34 : n3.toInt = 1 := by omega
          refine lv_tableIn (tgt := 65) hx hb dX12_look_26 (by omega) (by omega) (by rw [s_34]; rfl) (by decide) ?_
          refine lv_aload_n hx hb dX12_look_65 rfl (lv_at hl 0 rfl) ?_
          refine va_get (D := G.1) (ci := 12) (v := .int z31) (C := RX12) (T := TX12) (N := 52) hx hb hts inG_X12 hown hK hP 0 rfl rfl 37 (by decide) (hts _ fl_X12_358) (fun _ h9 => h9) rfl dX12_look_66 ?_
          have hP := hP.sub (ws' := []) [] rfl
          have hD := hD.sub (ws' := []) [] (by decide) rfl
          exact W.iret (v := z31) hx hb hr (fun t ht hW => ⟨⟨z31, [], rfl, Or.inr (Or.inr (Or.inr (Or.inr (Or.inr (Or.inr (Or.inr (Or.inr (Or.inr (Or.inr (Or.inr (Or.inr (Or.inl (⟨z31, z32, z33, i_7, i_8, i_9, i_14, i_27, i_28, i_29, i_30, i_34, rfl, rfl⟩))))))))))))), by rw [ht]; exact hP, hD⟩, hS.F ht⟩) hS.2.2 dX12_look_69
        ·
          have i_34 : n3.toInt = 2 := by omega
          refine lv_tableIn (tgt := 70) hx hb dX12_look_26 (by omega) (by omega) (by rw [s_34]; rfl) (by decide) ?_
          refine lv_aload_n hx hb dX12_look_70 rfl (lv_at hl 0 rfl) ?_
          refine va_get (D := G.1) (ci := 12) (v := .int z31) (C := RX12) (T := TX12) (N := 52) hx hb hts inG_X12 hown hK hP 0 rfl rfl 37 (by decide) (hts _ fl_X12_358) (fun _ h9 => h9) rfl dX12_look_71 ?_
          refine lv_if_ne (tgt := 81) hx hb dX12_look_74 (by decide) (fun c_35 => ?_) (fun c_35 => ?_)
          ·
            have i_35 : z31.toInt ≠ 0 := by have z := g5_ne (a := z31.toInt) (b := 0) (by rfl) (by decide) c_35; omega
            refine lv_aload_n hx hb dX12_look_81 rfl (lv_at hl 0 rfl) ?_
            refine va_get (D := G.1) (ci := 12) (v := .ref a15) (C := RX12) (T := TX12) (N := 52) hx hb hts inG_X12 hown hK hP 0 rfl rfl 38 (by decide) (hts _ fl_X12_82) (fun _ h9 => h9) rfl dX12_look_82 ?_
            refine lv_aload_n hx hb dX12_look_85 rfl (lv_at hl 0 rfl) ?_
            refine va_get (D := G.1) (ci := 12) (v := .int z31) (C := RX12) (T := TX12) (N := 52) hx hb hts inG_X12 hown hK hP 0 rfl rfl 37 (by decide) (hts _ fl_X12_358) (fun _ h9 => h9) rfl dX12_look_86 ?_
            refine lv_iconst (v := 1) hx hb dX12_look_89 (by decide) ?_
            refine lv_isub hx hb dX12_look_90 ?_
            have t_36 : (z31 - 1).toInt = z31.toInt - 1 := g5_isub (a := z31.toInt) (b := 1) (by rfl) (by decide) (by omega) (by omega)
            have tz_37 := g5_clamp (z31 - 1)
            have t_37 := i_30 ((z31 - 1).toNatClampNeg) (by omega)
            refine va_iald hx hb hK hP 2 0 rfl rfl (i := (z31 - 1)) (vp_in_iff.mpr ⟨by omega, by omega⟩) dX12_look_91 ?_
            refine lv_bipush (v := 64) hx hb dX12_look_92 (by decide) ?_
            refine lv_idiv hx hb dX12_look_94 (by decide) ?_
            have t_38 : ((z33 (z31 - 1).toNatClampNeg) / 64).toInt = (z33 (z31 - 1).toNatClampNeg).toInt / 64 := g5_idiv (a := (z33 (z31 - 1).toNatClampNeg).toInt) (b := 64) rfl (by decide) (by omega) (by decide)
            have hP := hP.sub (ws' := []) [] rfl
            have hD := hD.sub (ws' := []) [] (by decide) rfl
            exact W.iret (v := ((z33 (z31 - 1).toNatClampNeg) / 64)) hx hb hr (fun t ht hW => ⟨⟨((z33 (z31 - 1).toNatClampNeg) / 64), [], rfl, Or.inr (Or.inr (Or.inr (Or.inr (Or.inr (Or.inr (Or.inr (Or.inr (Or.inr (Or.inr (Or.inr (Or.inr (Or.inr (Or.inl (⟨z31, z32, z33, i_7, i_8, i_9, i_14, i_27, i_28, i_29, i_30, i_34, i_35, (by omega), rfl, rfl⟩)))))))))))))), by rw [ht]; exact hP, hD⟩, hS.F ht⟩) hS.2.2 dX12_look_95
          ·
            have i_35 : z31.toInt = 0 := by have z := g5_neN (a := z31.toInt) (b := 0) (by rfl) (by decide) c_35; omega
            refine lv_iconst (v := (-1)) hx hb dX12_look_77 (by decide) ?_
            refine lv_goto (tgt := 95) hx hb dX12_look_78 (by decide) ?_
            have hP := hP.sub (ws' := []) [] rfl
            have hD := hD.sub (ws' := []) [] (by decide) rfl
            exact W.iret (v := (-1)) hx hb hr (fun t ht hW => ⟨⟨(-1), [], rfl, Or.inr (Or.inr (Or.inr (Or.inr (Or.inr (Or.inr (Or.inr (Or.inr (Or.inr (Or.inr (Or.inr (Or.inr (Or.inr (Or.inr (Or.inl (⟨z31, z32, z33, i_7, i_8, i_9, i_14, i_27, i_28, i_29, i_30, i_34, i_35, rfl, rfl⟩))))))))))))))), by rw [ht]; exact hP, hD⟩, hS.F ht⟩) hS.2.2 dX12_look_95
        ·
          have i_34 : n3.toInt = 3 := by omega
          refine lv_tableIn (tgt := 96) hx hb dX12_look_26 (by omega) (by omega) (by rw [s_34]; rfl) (by decide) ?_
          refine lv_aload_n hx hb dX12_look_96 rfl (lv_at hl 0 rfl) ?_
          refine va_get (D := G.1) (ci := 12) (v := .int 1000000) (C := RX12) (T := TX12) (N := 52) hx hb hts inG_X12 hown hK hP 0 rfl rfl 36 (by decide) (hts _ fl_X12_361) (fun _ h9 => h9) rfl dX12_look_97 ?_
          have hP := hP.sub (ws' := []) [] rfl
          have hD := hD.sub (ws' := []) [] (by decide) rfl
          exact W.iret (v := 1000000) hx hb hr (fun t ht hW => ⟨⟨1000000, [], rfl, Or.inr (Or.inr (Or.inr (Or.inr (Or.inr (Or.inr (Or.inr (Or.inr (Or.inr (Or.inr (Or.inr (Or.inr (Or.inr (Or.inr (Or.inr (Or.inl (⟨z31, z32, z33, i_7, i_8, i_9, i_14, i_27, i_28, i_29, i_30, i_34, rfl, rfl⟩)))))))))))))))), by rw [ht]; exact hP, hD⟩, hS.F ht⟩) hS.2.2 dX12_look_100
        ·
          have i_34 : n3.toInt = 4 := by omega
          refine lv_tableIn (tgt := 101) hx hb dX12_look_26 (by omega) (by omega) (by rw [s_34]; rfl) (by decide) ?_
          refine lv_aload_n hx hb dX12_look_101 rfl (lv_at hl 0 rfl) ?_
          refine va_get (D := G.1) (ci := 12) (v := .int 0) (C := RX12) (T := TX12) (N := 52) hx hb hts inG_X12 hown hK hP 0 rfl rfl 39 (by decide) (hts _ fl_X12_368) (fun _ h9 => h9) rfl dX12_look_102 ?_
          have hP := hP.sub (ws' := []) [] rfl
          have hD := hD.sub (ws' := []) [] (by decide) rfl
          exact W.iret (v := 0) hx hb hr (fun t ht hW => ⟨⟨0, [], rfl, Or.inr (Or.inr (Or.inr (Or.inr (Or.inr (Or.inr (Or.inr (Or.inr (Or.inr (Or.inr (Or.inr (Or.inr (Or.inr (Or.inr (Or.inr (Or.inr (Or.inl (⟨z31, z32, z33, i_7, i_8, i_9, i_14, i_27, i_28, i_29, i_30, i_34, rfl, rfl⟩))))))))))))))))), by rw [ht]; exact hP, hD⟩, hS.F ht⟩) hS.2.2 dX12_look_105
        ·
          have i_34 : n3.toInt < 0 := by omega
          refine lv_tableOut (tgt := 106) hx hb dX12_look_26 (by omega) (by decide) ?_
          refine lv_iconst (v := (-1)) hx hb dX12_look_106 (by decide) ?_
          have hP := hP.sub (ws' := []) [] rfl
          have hD := hD.sub (ws' := []) [] (by decide) rfl
          exact W.iret (v := (-1)) hx hb hr (fun t ht hW => ⟨⟨(-1), [], rfl, Or.inr (Or.inr (Or.inr (Or.inr (Or.inr (Or.inr (Or.inr (Or.inr (Or.inr (Or.inr (Or.inr (Or.inr (Or.inr (Or.inr (Or.inr (Or.inr (Or.inr (Or.inl (⟨z31, z32, z33, i_7, i_8, i_9, i_14, i_27, i_28, i_29, i_30, i_34, rfl, rfl⟩)))))))))))))))))), by rw [ht]; exact hP, hD⟩, hS.F ht⟩) hS.2.2 dX12_look_107
        ·
          have i_34 : n3.toInt > 4 := by omega
          refine lv_tableOut (tgt := 106) hx hb dX12_look_26 (by omega) (by decide) ?_
          refine lv_iconst (v := (-1)) hx hb dX12_look_106 (by decide) ?_
          have hP := hP.sub (ws' := []) [] rfl
          have hD := hD.sub (ws' := []) [] (by decide) rfl
          exact W.iret (v := (-1)) hx hb hr (fun t ht hW => ⟨⟨(-1), [], rfl, Or.inr (Or.inr (Or.inr (Or.inr (Or.inr (Or.inr (Or.inr (Or.inr (Or.inr (Or.inr (Or.inr (Or.inr (Or.inr (Or.inr (Or.inr (Or.inr (Or.inr (Or.inr (Or.inl (⟨z31, z32, z33, i_7, i_8, i_9, i_14, i_27, i_28, i_29, i_30, i_34, rfl, rfl⟩))))))))))))))))))), by rw [ht]; exact hP, hD⟩, hS.F ht⟩) hS.2.2 dX12_look_107
      ·
        have e_14 : n1 = 2 := g5_toc (by decide) i_14
        subst e_14
        have hPc := hP.sub (ws' := [(a0, .inr (12, [.int 0, .int 0, .ref a1, .ref a2, .ref a3, .ref a4, .int 0, .ref a5, .int 0, .int 0, .int 0, .int 0, .long 0, .int (-1), .int 0, .int 0, .ref a6, .int 0, .ref a7, .ref a8, .int 0, .ref a9, .ref a10, .int 0, .int 0, .ref a11, .ref a12, .int 0, .ref a13, .ref a14, .int 0, .long 0, .long 0, .int 0, .int 0, .int 0, .int 0, .int 0, .ref a15, .int 0, .int 0, .ref a16, .int 0, .ref a17, .ref a18, .ref a19, .int 0, .ref a20, .ref a21, .long 0, .ref a22, .int 0])), (a2, .inl (G.2 0, 5740, .inl (upd (upd (upd (fun _ => 0) 3 (-1)) 4 1000) 6 (-1)))), (a15, .inl (G.2 0, 200, .inl (fun _ => 0)))]) [0, 1, 2] rfl
        have hDc := hD.sub (ws' := [(a0, .inr (12, [.int 0, .int 0, .ref a1, .ref a2, .ref a3, .ref a4, .int 0, .ref a5, .int 0, .int 0, .int 0, .int 0, .long 0, .int (-1), .int 0, .int 0, .ref a6, .int 0, .ref a7, .ref a8, .int 0, .ref a9, .ref a10, .int 0, .int 0, .ref a11, .ref a12, .int 0, .ref a13, .ref a14, .int 0, .long 0, .long 0, .int 0, .int 0, .int 0, .int 0, .int 0, .ref a15, .int 0, .int 0, .ref a16, .int 0, .ref a17, .ref a18, .ref a19, .int 0, .ref a20, .ref a21, .long 0, .ref a22, .int 0])), (a2, .inl (G.2 0, 5740, .inl (upd (upd (upd (fun _ => 0) 3 (-1)) 4 1000) 6 (-1)))), (a15, .inl (G.2 0, 200, .inl (fun _ => 0)))]) [0, 1, 2] (by decide) rfl
        have hFc := va_free (wc := [(a0, .inr (12, [.int 0, .int 0, .ref a1, .ref a2, .ref a3, .ref a4, .int 0, .ref a5, .int 0, .int 0, .int 0, .int 0, .long 0, .int (-1), .int 0, .int 0, .ref a6, .int 0, .ref a7, .ref a8, .int 0, .ref a9, .ref a10, .int 0, .int 0, .ref a11, .ref a12, .int 0, .ref a13, .ref a14, .int 0, .long 0, .long 0, .int 0, .int 0, .int 0, .int 0, .int 0, .ref a15, .int 0, .int 0, .ref a16, .int 0, .ref a17, .ref a18, .ref a19, .int 0, .ref a20, .ref a21, .long 0, .ref a22, .int 0])), (a2, .inl (G.2 0, 5740, .inl (upd (upd (upd (fun _ => 0) 3 (-1)) 4 1000) 6 (-1)))), (a15, .inl (G.2 0, 200, .inl (fun _ => 0)))]) hD hS hA [0, 1, 2] rfl
        refine va_callv (va_runV (As := [.int n0, .int 2, .int n2, .int 0]) (rest := []) ⟨hx, hb, hml, hown, hts⟩ (k_go2 l G a0 a2 a15 a1 a3 a4 a5 a6 a7 a8 a9 a10 a11 a12 a13 a14 a16 a17 a18 a19 a20 a21 a22 H.size n0 n2 0 0 0 0 0 0 0 0 (fun _ => 0) ⟨by omega, by omega⟩ ⟨by omega, by omega⟩) (cwV 4 hts gV_X12_401 rfl rfl rfl hv_X12_go ⟨Nat.le_of_ble_eq_true rfl, Nat.le_of_ble_eq_true rfl⟩) (g5_preV hPc hK hDc hN hT hS hFc (ci := 12) (q0 := 0) rfl rfl) rfl rfl hl.1 rfl (lv_room (Nat.le_of_ble_eq_true rfl)) dX12_look_21 ⟨Nat.le_of_ble_eq_true rfl, Nat.le_of_ble_eq_true rfl⟩) hS (fun q _ h => hFc q h) hFc (fun u t H1 locs ht hvm hw hB hz1 hk1 hS => ?_)
        obtain ⟨hP1, hD1⟩ := hB
        rw [ht] at hP1
        obtain ⟨z43, z44, z45, i_39, i_40, i_41, i_42, rfl⟩ := hw
        have i_39 : z43.toInt = 7 - n0.toInt / 8 := i_39
        have i_40 : 0 ≤ z43.toInt ∧ z43.toInt ≤ 7 := i_40
        have i_41 : 0 ≤ z44.toInt ∧ z44.toInt ≤ 63 := i_41
        have i_42 : ∀ j : Nat, (j : Int) < z43.toInt → (z45 j).toInt = n2.toInt * 64 + (n0.toInt + 8 * ((j : Int) + 1)) := i_42
        obtain ⟨hP, hD⟩ := va_join (wr := []) (w1 := [(a0, .inr (12, [.int 0, .int 0, .ref a1, .ref a2, .ref a3, .ref a4, .int 0, .ref a5, .int 0, .int 0, .int 0, .int 0, .long 0, .int (-1), .int 0, .int 0, .ref a6, .int 0, .ref a7, .ref a8, .int 0, .ref a9, .ref a10, .int 0, .int 0, .ref a11, .ref a12, .int 0, .ref a13, .ref a14, .int 0, .long 0, .long 0, .int z44, .int n2, .int 2, .int 1000000, .int z43, .ref a15, .int 0, .int (-1), .ref a16, .int 0, .ref a17, .ref a18, .ref a19, .int 0, .ref a20, .ref a21, .long 0, .ref a22, .int 0])), (a2, .inl (G.2 0, 5740, .inl (upd (upd (upd (fun _ => 0) 3 (-1)) 4 1000) 6 (-1)))), (a15, .inl (G.2 0, 200, .inl z45))]) hP hD [0, 1, 2] [] rfl rfl (by decide) (by decide) hk1 hFc hP1 hD1
        generalize H1 = H at hP hS ⊢
        have hP : va_P G.1 vwCl [(a0, .inr (12, [.int 0, .int 0, .ref a1, .ref a2, .ref a3, .ref a4, .int 0, .ref a5, .int 0, .int 0, .int 0, .int 0, .long 0, .int (-1), .int 0, .int 0, .ref a6, .int 0, .ref a7, .ref a8, .int 0, .ref a9, .ref a10, .int 0, .int 0, .ref a11, .ref a12, .int 0, .ref a13, .ref a14, .int 0, .long 0, .long 0, .int z44, .int n2, .int 2, .int 1000000, .int z43, .ref a15, .int 0, .int (-1), .ref a16, .int 0, .ref a17, .ref a18, .ref a19, .int 0, .ref a20, .ref a21, .long 0, .ref a22, .int 0])), (a2, .inl (G.2 0, 5740, .inl (upd (upd (upd (fun _ => 0) 3 (-1)) 4 1000) 6 (-1)))), (a15, .inl (G.2 0, 200, .inl z45))] H := hP
        have hD : va_D A [(a0, .inr (12, [.int 0, .int 0, .ref a1, .ref a2, .ref a3, .ref a4, .int 0, .ref a5, .int 0, .int 0, .int 0, .int 0, .long 0, .int (-1), .int 0, .int 0, .ref a6, .int 0, .ref a7, .ref a8, .int 0, .ref a9, .ref a10, .int 0, .int 0, .ref a11, .ref a12, .int 0, .ref a13, .ref a14, .int 0, .long 0, .long 0, .int z44, .int n2, .int 2, .int 1000000, .int z43, .ref a15, .int 0, .int (-1), .ref a16, .int 0, .ref a17, .ref a18, .ref a19, .int 0, .ref a20, .ref a21, .long 0, .ref a22, .int 0])), (a2, .inl (G.2 0, 5740, .inl (upd (upd (upd (fun _ => 0) 3 (-1)) 4 1000) 6 (-1)))), (a15, .inl (G.2 0, 200, .inl z45))] := hD
        refine lv_iload hx hb dX12_look_24 (lv_at hl 4 rfl) ?_
        rcases (show n3.toInt = 0 ∨ n3.toInt = 1 ∨ n3.toInt = 2 ∨ n3.toInt = 3 ∨ n3.toInt = 4 ∨ n3.toInt < 0 ∨ n3.toInt > 4 by omega) with s_46 | s_46 | s_46 | s_46 | s_46 | s_46 | s_46
        ·
          have i_46 : n3.toInt = 0 := by omega
          refine lv_tableIn (tgt := 60) hx hb dX12_look_26 (by omega) (by omega) (by rw [s_46]; rfl) (by decide) ?_
          refine lv_aload_n hx hb dX12_look_60 rfl (lv_at hl 0 rfl) ?_
          refine va_get (D := G.1) (ci := 12) (v := .int (-1)) (C := RX12) (T := TX12) (N := 52) hx hb hts inG_X12 hown hK hP 0 rfl rfl 40 (by decide) (hts _ fl_X12_371) (fun _ h9 => h9) rfl dX12_look_61 ?_
          have hP := hP.sub (ws' := []) [] rfl
          have hD := hD.sub (ws' := []) [] (by decide) rfl
          exact W.iret (v := (-1)) hx hb hr (fun t ht hW => ⟨⟨(-1), [], rfl, Or.inr (Or.inr (Or.inr (Or.inr (Or.inr (Or.inr (Or.inr (Or.inr (Or.inr (Or.inr (Or.inr (Or.inr (Or.inr (Or.inr (Or.inr (Or.inr (Or.inr (Or.inr (Or.inr (Or.inl (⟨z43, z44, z45, i_7, i_8, i_9, i_14, i_39, i_40, i_41, i_42, i_46, rfl, rfl⟩)))))))))))))))))))), by rw [ht]; exact hP, hD⟩, hS.F ht⟩) hS.2.2 dX12_look_64
        ·
          have i_46 : n3.toInt = 1 := by omega
          refine lv_tableIn (tgt := 65) hx hb dX12_look_26 (by omega) (by omega) (by rw [s_46]; rfl) (by decide) ?_
          refine lv_aload_n hx hb dX12_look_65 rfl (lv_at hl 0 rfl) ?_
          refine va_get (D := G.1) (ci := 12) (v := .int z43) (C := RX12) (T := TX12) (N := 52) hx hb hts inG_X12 hown hK hP 0 rfl rfl 37 (by decide) (hts _ fl_X12_358) (fun _ h9 => h9) rfl dX12_look_66 ?_
          have hP := hP.sub (ws' := []) [] rfl
          have hD := hD.sub (ws' := []) [] (by decide) rfl
          exact W.iret (v := z43) hx hb hr (fun t ht hW => ⟨⟨z43, [], rfl, Or.inr (Or.inr (Or.inr (Or.inr (Or.inr (Or.inr (Or.inr (Or.inr (Or.inr (Or.inr (Or.inr (Or.inr (Or.inr (Or.inr (Or.inr (Or.inr (Or.inr (Or.inr (Or.inr (Or.inr (Or.inl (⟨z43, z44, z45, i_7, i_8, i_9, i_14, i_39, i_40, i_41, i_42, i_46, rfl, rfl⟩))))))))))))))))))))), by rw [ht]; exact hP, hD⟩, hS.F ht⟩) hS.2.2 dX12_look_69
        ·
          have i_46 : n3.toInt = 2 := by omega
          refine lv_tableIn (tgt := 70) hx hb dX12_look_26 (by omega) (by omega) (by rw [s_46]; rfl) (by decide) ?_
          refine lv_aload_n hx hb dX12_look_70 rfl (lv_at hl 0 rfl) ?_
          refine va_get (D := G.1) (ci := 12) (v := .int z43) (C := RX12) (T := TX12) (N := 52) hx hb hts inG_X12 hown hK hP 0 rfl rfl 37 (by decide) (hts _ fl_X12_358) (fun _ h9 => h9) rfl dX12_look_71 ?_
          refine lv_if_ne (tgt := 81) hx hb dX12_look_74 (by decide) (fun c_47 => ?_) (fun c_47 => ?_)
          ·
            have i_47 : z43.toInt ≠ 0 := by have z := g5_ne (a := z43.toInt) (b := 0) (by rfl) (by decide) c_47; omega
            refine lv_aload_n hx hb dX12_look_81 rfl (lv_at hl 0 rfl) ?_
            refine va_get (D := G.1) (ci := 12) (v := .ref a15) (C := RX12) (T := TX12) (N := 52) hx hb hts inG_X12 hown hK hP 0 rfl rfl 38 (by decide) (hts _ fl_X12_82) (fun _ h9 => h9) rfl dX12_look_82 ?_
            refine lv_aload_n hx hb dX12_look_85 rfl (lv_at hl 0 rfl) ?_
            refine va_get (D := G.1) (ci := 12) (v := .int z43) (C := RX12) (T := TX12) (N := 52) hx hb hts inG_X12 hown hK hP 0 rfl rfl 37 (by decide) (hts _ fl_X12_358) (fun _ h9 => h9) rfl dX12_look_86 ?_
            refine lv_iconst (v := 1) hx hb dX12_look_89 (by decide) ?_
            refine lv_isub hx hb dX12_look_90 ?_
            have t_48 : (z43 - 1).toInt = z43.toInt - 1 := g5_isub (a := z43.toInt) (b := 1) (by rfl) (by decide) (by omega) (by omega)
            have tz_49 := g5_clamp (z43 - 1)
            have t_49 := i_42 ((z43 - 1).toNatClampNeg) (by omega)
            refine va_iald hx hb hK hP 2 0 rfl rfl (i := (z43 - 1)) (vp_in_iff.mpr ⟨by omega, by omega⟩) dX12_look_91 ?_
            refine lv_bipush (v := 64) hx hb dX12_look_92 (by decide) ?_
            refine lv_idiv hx hb dX12_look_94 (by decide) ?_
            have t_50 : ((z45 (z43 - 1).toNatClampNeg) / 64).toInt = (z45 (z43 - 1).toNatClampNeg).toInt / 64 := g5_idiv (a := (z45 (z43 - 1).toNatClampNeg).toInt) (b := 64) rfl (by decide) (by omega) (by decide)
            have hP := hP.sub (ws' := []) [] rfl
            have hD := hD.sub (ws' := []) [] (by decide) rfl
            exact W.iret (v := ((z45 (z43 - 1).toNatClampNeg) / 64)) hx hb hr (fun t ht hW => ⟨⟨((z45 (z43 - 1).toNatClampNeg) / 64), [], rfl, Or.inr (Or.inr (Or.inr (Or.inr (Or.inr (Or.inr (Or.inr (Or.inr (Or.inr (Or.inr (Or.inr (Or.inr (Or.inr (Or.inr (Or.inr (Or.inr (Or.inr (Or.inr (Or.inr (Or.inr (Or.inr (Or.inl (⟨z43, z44, z45, i_7, i_8, i_9, i_14, i_39, i_40, i_41, i_42, i_46, i_47, (by omega), rfl, rfl⟩)))))))))))))))))))))), by rw [ht]; exact hP, hD⟩, hS.F ht⟩) hS.2.2 dX12_look_95
          ·
            have i_47 : z43.toInt = 0 := by have z := g5_neN (a := z43.toInt) (b := 0) (by rfl) (by decide) c_47; omega
            refine lv_iconst (v := (-1)) hx hb dX12_look_77 (by decide) ?_
            refine lv_goto (tgt := 95) hx hb dX12_look_78 (by decide) ?_
            have hP := hP.sub (ws' := []) [] rfl
            have hD := hD.sub (ws' := []) [] (by decide) rfl
            exact W.iret (v := (-1)) hx hb hr (fun t ht hW => ⟨⟨(-1), [], rfl, Or.inr (Or.inr (Or.inr (Or.inr (Or.inr (Or.inr (Or.inr (Or.inr (Or.inr (Or.inr (Or.inr (Or.inr (Or.inr (Or.inr (Or.inr (Or.inr (Or.inr (Or.inr (Or.inr (Or.inr (Or.inr (Or.inr (Or.inl (⟨z43, z44, z45, i_7, i_8, i_9, i_14, i_39, i_40, i_41, i_42, i_46, i_47, rfl, rfl⟩))))))))))))))))))))))), by rw [ht]; exact hP, hD⟩, hS.F ht⟩) hS.2.2 dX12_look_95
        ·
          have i_46 : n3.toInt = 3 := by omega
          refine lv_tableIn (tgt := 96) hx hb dX12_look_26 (by omega) (by omega) (by rw [s_46]; rfl) (by decide) ?_
          refine lv_aload_n hx hb dX12_look_96 rfl (lv_at hl 0 rfl) ?_
          refine va_get (D := G.1) (ci := 12) (v := .int 1000000) (C := RX12) (T := TX12) (N := 52) hx hb hts inG_X12 hown hK hP 0 rfl rfl 36 (by decide) (hts _ fl_X12_361) (fun _ h9 => h9) rfl dX12_look_97 ?_
          have hP := hP.sub (ws' := []) [] rfl
          have hD := hD.sub (ws' := []) [] (by decide) rfl
          exact W.iret (v := 1000000) hx hb hr (fun t ht hW => ⟨⟨1000000, [], rfl, Or.inr (Or.inr (Or.inr (Or.inr (Or.inr (Or.inr (Or.inr (Or.inr (Or.inr (Or.inr (Or.inr (Or.inr (Or.inr (Or.inr (Or.inr (Or.inr (Or.inr (Or.inr (Or.inr (Or.inr (Or.inr (Or.inr (Or.inr (Or.inl (⟨z43, z44, z45, i_7, i_8, i_9, i_14, i_39, i_40, i_41, i_42, i_46, rfl, rfl⟩)))))))))))))))))))))))), by rw [ht]; exact hP, hD⟩, hS.F ht⟩) hS.2.2 dX12_look_100
        ·
          have i_46 : n3.toInt = 4 := by omega
          refine lv_tableIn (tgt := 101) hx hb dX12_look_26 (by omega) (by omega) (by rw [s_46]; rfl) (by decide) ?_
          refine lv_aload_n hx hb dX12_look_101 rfl (lv_at hl 0 rfl) ?_
          refine va_get (D := G.1) (ci := 12) (v := .int 0) (C := RX12) (T := TX12) (N := 52) hx hb hts inG_X12 hown hK hP 0 rfl rfl 39 (by decide) (hts _ fl_X12_368) (fun _ h9 => h9) rfl dX12_look_102 ?_
          have hP := hP.sub (ws' := []) [] rfl
          have hD := hD.sub (ws' := []) [] (by decide) rfl
          exact W.iret (v := 0) hx hb hr (fun t ht hW => ⟨⟨0, [], rfl, Or.inr (Or.inr (Or.inr (Or.inr (Or.inr (Or.inr (Or.inr (Or.inr (Or.inr (Or.inr (Or.inr (Or.inr (Or.inr (Or.inr (Or.inr (Or.inr (Or.inr (Or.inr (Or.inr (Or.inr (Or.inr (Or.inr (Or.inr (Or.inr (Or.inl (⟨z43, z44, z45, i_7, i_8, i_9, i_14, i_39, i_40, i_41, i_42, i_46, rfl, rfl⟩))))))))))))))))))))))))), by rw [ht]; exact hP, hD⟩, hS.F ht⟩) hS.2.2 dX12_look_105
        ·
          have i_46 : n3.toInt < 0 := by omega
          refine lv_tableOut (tgt := 106) hx hb dX12_look_26 (by omega) (by decide) ?_
          refine lv_iconst (v := (-1)) hx hb dX12_look_106 (by decide) ?_
          have hP := hP.sub (ws' := []) [] rfl
          have hD := hD.sub (ws' := []) [] (by decide) rfl
          exact W.iret (v := (-1)) hx hb hr (fun t ht hW => ⟨⟨(-1), [], rfl, Or.inr (Or.inr (Or.inr (Or.inr (Or.inr (Or.inr (Or.inr (Or.inr (Or.inr (Or.inr (Or.inr (Or.inr (Or.inr (Or.inr (Or.inr (Or.inr (Or.inr (Or.inr (Or.inr (Or.inr (Or.inr (Or.inr (Or.inr (Or.inr (Or.inr (Or.inl (⟨z43, z44, z45, i_7, i_8, i_9, i_14, i_39, i_40, i_41, i_42, i_46, rfl, rfl⟩)))))))))))))))))))))))))), by rw [ht]; exact hP, hD⟩, hS.F ht⟩) hS.2.2 dX12_look_107
        ·
          have i_46 : n3.toInt > 4 := by omega
          refine lv_tableOut (tgt := 106) hx hb dX12_look_26 (by omega) (by decide) ?_
          refine lv_iconst (v := (-1)) hx hb dX12_look_106 (by decide) ?_
          have hP := hP.sub (ws' := []) [] rfl
          have hD := hD.sub (ws' := []) [] (by decide) rfl
          exact W.iret (v := (-1)) hx hb hr (fun t ht hW => ⟨⟨(-1), [], rfl, Or.inr (Or.inr (Or.inr (Or.inr (Or.inr (Or.inr (Or.inr (Or.inr (Or.inr (Or.inr (Or.inr (Or.inr (Or.inr (Or.inr (Or.inr (Or.inr (Or.inr (Or.inr (Or.inr (Or.inr (Or.inr (Or.inr (Or.inr (Or.inr (Or.inr (Or.inr (Or.inl (⟨z43, z44, z45, i_7, i_8, i_9, i_14, i_39, i_40, i_41, i_42, i_46, rfl, rfl⟩))))))))))))))))))))))))))), by rw [ht]; exact hP, hD⟩, hS.F ht⟩) hS.2.2 dX12_look_107
      ·
        have e_14 : n1 = 3 := g5_toc (by decide) i_14
        subst e_14
        have hPc := hP.sub (ws' := [(a0, .inr (12, [.int 0, .int 0, .ref a1, .ref a2, .ref a3, .ref a4, .int 0, .ref a5, .int 0, .int 0, .int 0, .int 0, .long 0, .int (-1), .int 0, .int 0, .ref a6, .int 0, .ref a7, .ref a8, .int 0, .ref a9, .ref a10, .int 0, .int 0, .ref a11, .ref a12, .int 0, .ref a13, .ref a14, .int 0, .long 0, .long 0, .int 0, .int 0, .int 0, .int 0, .int 0, .ref a15, .int 0, .int 0, .ref a16, .int 0, .ref a17, .ref a18, .ref a19, .int 0, .ref a20, .ref a21, .long 0, .ref a22, .int 0])), (a2, .inl (G.2 0, 5740, .inl (upd (upd (upd (fun _ => 0) 3 (-1)) 4 1000) 6 (-1)))), (a15, .inl (G.2 0, 200, .inl (fun _ => 0)))]) [0, 1, 2] rfl
        have hDc := hD.sub (ws' := [(a0, .inr (12, [.int 0, .int 0, .ref a1, .ref a2, .ref a3, .ref a4, .int 0, .ref a5, .int 0, .int 0, .int 0, .int 0, .long 0, .int (-1), .int 0, .int 0, .ref a6, .int 0, .ref a7, .ref a8, .int 0, .ref a9, .ref a10, .int 0, .int 0, .ref a11, .ref a12, .int 0, .ref a13, .ref a14, .int 0, .long 0, .long 0, .int 0, .int 0, .int 0, .int 0, .int 0, .ref a15, .int 0, .int 0, .ref a16, .int 0, .ref a17, .ref a18, .ref a19, .int 0, .ref a20, .ref a21, .long 0, .ref a22, .int 0])), (a2, .inl (G.2 0, 5740, .inl (upd (upd (upd (fun _ => 0) 3 (-1)) 4 1000) 6 (-1)))), (a15, .inl (G.2 0, 200, .inl (fun _ => 0)))]) [0, 1, 2] (by decide) rfl
        have hFc := va_free (wc := [(a0, .inr (12, [.int 0, .int 0, .ref a1, .ref a2, .ref a3, .ref a4, .int 0, .ref a5, .int 0, .int 0, .int 0, .int 0, .long 0, .int (-1), .int 0, .int 0, .ref a6, .int 0, .ref a7, .ref a8, .int 0, .ref a9, .ref a10, .int 0, .int 0, .ref a11, .ref a12, .int 0, .ref a13, .ref a14, .int 0, .long 0, .long 0, .int 0, .int 0, .int 0, .int 0, .int 0, .ref a15, .int 0, .int 0, .ref a16, .int 0, .ref a17, .ref a18, .ref a19, .int 0, .ref a20, .ref a21, .long 0, .ref a22, .int 0])), (a2, .inl (G.2 0, 5740, .inl (upd (upd (upd (fun _ => 0) 3 (-1)) 4 1000) 6 (-1)))), (a15, .inl (G.2 0, 200, .inl (fun _ => 0)))]) hD hS hA [0, 1, 2] rfl
        refine va_callv (va_runV (As := [.int n0, .int 3, .int n2, .int 0]) (rest := []) ⟨hx, hb, hml, hown, hts⟩ (k_go3 l G a0 a2 a15 a1 a3 a4 a5 a6 a7 a8 a9 a10 a11 a12 a13 a14 a16 a17 a18 a19 a20 a21 a22 H.size n0 n2 0 0 0 0 0 0 0 0 (fun _ => 0) ⟨by omega, by omega⟩ ⟨by omega, by omega⟩) (cwV 4 hts gV_X12_401 rfl rfl rfl hv_X12_go ⟨Nat.le_of_ble_eq_true rfl, Nat.le_of_ble_eq_true rfl⟩) (g5_preV hPc hK hDc hN hT hS hFc (ci := 12) (q0 := 0) rfl rfl) rfl rfl hl.1 rfl (lv_room (Nat.le_of_ble_eq_true rfl)) dX12_look_21 ⟨Nat.le_of_ble_eq_true rfl, Nat.le_of_ble_eq_true rfl⟩) hS (fun q _ h => hFc q h) hFc (fun u t H1 locs ht hvm hw hB hz1 hk1 hS => ?_)
        obtain ⟨hP1, hD1⟩ := hB
        rw [ht] at hP1
        obtain ⟨z55, z56, z57, i_51, i_52, i_53, i_54, rfl⟩ := hw
        have i_51 : z55.toInt = n0.toInt % 8 := i_51
        have i_52 : 0 ≤ z55.toInt ∧ z55.toInt ≤ 7 := i_52
        have i_53 : 0 ≤ z56.toInt ∧ z56.toInt ≤ 63 := i_53
        have i_54 : ∀ j : Nat, (j : Int) < z55.toInt → (z57 j).toInt = n2.toInt * 64 + (n0.toInt - ((j : Int) + 1)) := i_54
        obtain ⟨hP, hD⟩ := va_join (wr := []) (w1 := [(a0, .inr (12, [.int 0, .int 0, .ref a1, .ref a2, .ref a3, .ref a4, .int 0, .ref a5, .int 0, .int 0, .int 0, .int 0, .long 0, .int (-1), .int 0, .int 0, .ref a6, .int 0, .ref a7, .ref a8, .int 0, .ref a9, .ref a10, .int 0, .int 0, .ref a11, .ref a12, .int 0, .ref a13, .ref a14, .int 0, .long 0, .long 0, .int z56, .int n2, .int 3, .int 1000000, .int z55, .ref a15, .int 0, .int (-1), .ref a16, .int 0, .ref a17, .ref a18, .ref a19, .int 0, .ref a20, .ref a21, .long 0, .ref a22, .int 0])), (a2, .inl (G.2 0, 5740, .inl (upd (upd (upd (fun _ => 0) 3 (-1)) 4 1000) 6 (-1)))), (a15, .inl (G.2 0, 200, .inl z57))]) hP hD [0, 1, 2] [] rfl rfl (by decide) (by decide) hk1 hFc hP1 hD1
        generalize H1 = H at hP hS ⊢
        have hP : va_P G.1 vwCl [(a0, .inr (12, [.int 0, .int 0, .ref a1, .ref a2, .ref a3, .ref a4, .int 0, .ref a5, .int 0, .int 0, .int 0, .int 0, .long 0, .int (-1), .int 0, .int 0, .ref a6, .int 0, .ref a7, .ref a8, .int 0, .ref a9, .ref a10, .int 0, .int 0, .ref a11, .ref a12, .int 0, .ref a13, .ref a14, .int 0, .long 0, .long 0, .int z56, .int n2, .int 3, .int 1000000, .int z55, .ref a15, .int 0, .int (-1), .ref a16, .int 0, .ref a17, .ref a18, .ref a19, .int 0, .ref a20, .ref a21, .long 0, .ref a22, .int 0])), (a2, .inl (G.2 0, 5740, .inl (upd (upd (upd (fun _ => 0) 3 (-1)) 4 1000) 6 (-1)))), (a15, .inl (G.2 0, 200, .inl z57))] H := hP
        have hD : va_D A [(a0, .inr (12, [.int 0, .int 0, .ref a1, .ref a2, .ref a3, .ref a4, .int 0, .ref a5, .int 0, .int 0, .int 0, .int 0, .long 0, .int (-1), .int 0, .int 0, .ref a6, .int 0, .ref a7, .ref a8, .int 0, .ref a9, .ref a10, .int 0, .int 0, .ref a11, .ref a12, .int 0, .ref a13, .ref a14, .int 0, .long 0, .long 0, .int z56, .int n2, .int 3, .int 1000000, .int z55, .ref a15, .int 0, .int (-1), .ref a16, .int 0, .ref a17, .ref a18, .ref a19, .int 0, .ref a20, .ref a21, .long 0, .ref a22, .int 0])), (a2, .inl (G.2 0, 5740, .inl (upd (upd (upd (fun _ => 0) 3 (-1)) 4 1000) 6 (-1)))), (a15, .inl (G.2 0, 200, .inl z57))] := hD
        refine lv_iload hx hb dX12_look_24 (lv_at hl 4 rfl) ?_
        rcases (show n3.toInt = 0 ∨ n3.toInt = 1 ∨ n3.toInt = 2 ∨ n3.toInt = 3 ∨ n3.toInt = 4 ∨ n3.toInt < 0 ∨ n3.toInt > 4 by omega) with s_58 | s_58 | s_58 | s_58 | s_58 | s_58 | s_58
        ·
          have i_58 : n3.toInt = 0 := by omega
          refine lv_tableIn (tgt := 60) hx hb dX12_look_26 (by omega) (by omega) (by rw [s_58]; rfl) (by decide) ?_
          refine lv_aload_n hx hb dX12_look_60 rfl (lv_at hl 0 rfl) ?_
          refine va_get (D := G.1) (ci := 12) (v := .int (-1)) (C := RX12) (T := TX12) (N := 52) hx hb hts inG_X12 hown hK hP 0 rfl rfl 40 (by decide) (hts _ fl_X12_371) (fun _ h9 => h9) rfl dX12_look_61 ?_
          have hP := hP.sub (ws' := []) [] rfl
          have hD := hD.sub (ws' := []) [] (by decide) rfl
          exact W.iret (v := (-1)) hx hb hr (fun t ht hW => ⟨⟨(-1), [], rfl, Or.inr (Or.inr (Or.inr (Or.inr (Or.inr (Or.inr (Or.inr (Or.inr (Or.inr (Or.inr (Or.inr (Or.inr (Or.inr (Or.inr (Or.inr (Or.inr (Or.inr (Or.inr (Or.inr (Or.inr (Or.inr (Or.inr (Or.inr (Or.inr (Or.inr (Or.inr (Or.inr (Or.inl (⟨z55, z56, z57, i_7, i_8, i_9, i_14, i_51, i_52, i_53, i_54, i_58, rfl, rfl⟩)))))))))))))))))))))))))))), by rw [ht]; exact hP, hD⟩, hS.F ht⟩) hS.2.2 dX12_look_64
        ·
          have i_58 : n3.toInt = 1 := by omega
          refine lv_tableIn (tgt := 65) hx hb dX12_look_26 (by omega) (by omega) (by rw [s_58]; rfl) (by decide) ?_
          refine lv_aload_n hx hb dX12_look_65 rfl (lv_at hl 0 rfl) ?_
          refine va_get (D := G.1) (ci := 12) (v := .int z55) (C := RX12) (T := TX12) (N := 52) hx hb hts inG_X12 hown hK hP 0 rfl rfl 37 (by decide) (hts _ fl_X12_358) (fun _ h9 => h9) rfl dX12_look_66 ?_
          have hP := hP.sub (ws' := []) [] rfl
          have hD := hD.sub (ws' := []) [] (by decide) rfl
          exact W.iret (v := z55) hx hb hr (fun t ht hW => ⟨⟨z55, [], rfl, Or.inr (Or.inr (Or.inr (Or.inr (Or.inr (Or.inr (Or.inr (Or.inr (Or.inr (Or.inr (Or.inr (Or.inr (Or.inr (Or.inr (Or.inr (Or.inr (Or.inr (Or.inr (Or.inr (Or.inr (Or.inr (Or.inr (Or.inr (Or.inr (Or.inr (Or.inr (Or.inr (Or.inr (Or.inl (⟨z55, z56, z57, i_7, i_8, i_9, i_14, i_51, i_52, i_53, i_54, i_58, rfl, rfl⟩))))))))))))))))))))))))))))), by rw [ht]; exact hP, hD⟩, hS.F ht⟩) hS.2.2 dX12_look_69
        ·
          have i_58 : n3.toInt = 2 := by omega
          refine lv_tableIn (tgt := 70) hx hb dX12_look_26 (by omega) (by omega) (by rw [s_58]; rfl) (by decide) ?_
          refine lv_aload_n hx hb dX12_look_70 rfl (lv_at hl 0 rfl) ?_
          refine va_get (D := G.1) (ci := 12) (v := .int z55) (C := RX12) (T := TX12) (N := 52) hx hb hts inG_X12 hown hK hP 0 rfl rfl 37 (by decide) (hts _ fl_X12_358) (fun _ h9 => h9) rfl dX12_look_71 ?_
          refine lv_if_ne (tgt := 81) hx hb dX12_look_74 (by decide) (fun c_59 => ?_) (fun c_59 => ?_)
          ·
            have i_59 : z55.toInt ≠ 0 := by have z := g5_ne (a := z55.toInt) (b := 0) (by rfl) (by decide) c_59; omega
            refine lv_aload_n hx hb dX12_look_81 rfl (lv_at hl 0 rfl) ?_
            refine va_get (D := G.1) (ci := 12) (v := .ref a15) (C := RX12) (T := TX12) (N := 52) hx hb hts inG_X12 hown hK hP 0 rfl rfl 38 (by decide) (hts _ fl_X12_82) (fun _ h9 => h9) rfl dX12_look_82 ?_
            refine lv_aload_n hx hb dX12_look_85 rfl (lv_at hl 0 rfl) ?_
            refine va_get (D := G.1) (ci := 12) (v := .int z55) (C := RX12) (T := TX12) (N := 52) hx hb hts inG_X12 hown hK hP 0 rfl rfl 37 (by decide) (hts _ fl_X12_358) (fun _ h9 => h9) rfl dX12_look_86 ?_
            refine lv_iconst (v := 1) hx hb dX12_look_89 (by decide) ?_
            refine lv_isub hx hb dX12_look_90 ?_
            have t_60 : (z55 - 1).toInt = z55.toInt - 1 := g5_isub (a := z55.toInt) (b := 1) (by rfl) (by decide) (by omega) (by omega)
            have tz_61 := g5_clamp (z55 - 1)
            have t_61 := i_54 ((z55 - 1).toNatClampNeg) (by omega)
            refine va_iald hx hb hK hP 2 0 rfl rfl (i := (z55 - 1)) (vp_in_iff.mpr ⟨by omega, by omega⟩) dX12_look_91 ?_
            refine lv_bipush (v := 64) hx hb dX12_look_92 (by decide) ?_
            refine lv_idiv hx hb dX12_look_94 (by decide) ?_
            have t_62 : ((z57 (z55 - 1).toNatClampNeg) / 64).toInt = (z57 (z55 - 1).toNatClampNeg).toInt / 64 := g5_idiv (a := (z57 (z55 - 1).toNatClampNeg).toInt) (b := 64) rfl (by decide) (by omega) (by decide)
            have hP := hP.sub (ws' := []) [] rfl
            have hD := hD.sub (ws' := []) [] (by decide) rfl
            exact W.iret (v := ((z57 (z55 - 1).toNatClampNeg) / 64)) hx hb hr (fun t ht hW => ⟨⟨((z57 (z55 - 1).toNatClampNeg) / 64), [], rfl, Or.inr (Or.inr (Or.inr (Or.inr (Or.inr (Or.inr (Or.inr (Or.inr (Or.inr (Or.inr (Or.inr (Or.inr (Or.inr (Or.inr (Or.inr (Or.inr (Or.inr (Or.inr (Or.inr (Or.inr (Or.inr (Or.inr (Or.inr (Or.inr (Or.inr (Or.inr (Or.inr (Or.inr (Or.inr (Or.inl (⟨z55, z56, z57, i_7, i_8, i_9, i_14, i_51, i_52, i_53, i_54, i_58, i_59, (by omega), rfl, rfl⟩)))))))))))))))))))))))))))))), by rw [ht]; exact hP, hD⟩, hS.F ht⟩) hS.2.2 dX12_look_95
          ·
            have i_59 : z55.toInt = 0 := by have z := g5_neN (a := z55.toInt) (b := 0) (by rfl) (by decide) c_59; omega
            refine lv_iconst (v := (-1)) hx hb dX12_look_77 (by decide) ?_
            refine lv_goto (tgt := 95) hx hb dX12_look_78 (by decide) ?_
            have hP := hP.sub (ws' := []) [] rfl
            have hD := hD.sub (ws' := []) [] (by decide) rfl
            exact W.iret (v := (-1)) hx hb hr (fun t ht hW => ⟨⟨(-1), [], rfl, Or.inr (Or.inr (Or.inr (Or.inr (Or.inr (Or.inr (Or.inr (Or.inr (Or.inr (Or.inr (Or.inr (Or.inr (Or.inr (Or.inr (Or.inr (Or.inr (Or.inr (Or.inr (Or.inr (Or.inr (Or.inr (Or.inr (Or.inr (Or.inr (Or.inr (Or.inr (Or.inr (Or.inr (Or.inr (Or.inr (Or.inl (⟨z55, z56, z57, i_7, i_8, i_9, i_14, i_51, i_52, i_53, i_54, i_58, i_59, rfl, rfl⟩))))))))))))))))))))))))))))))), by rw [ht]; exact hP, hD⟩, hS.F ht⟩) hS.2.2 dX12_look_95
        ·
          have i_58 : n3.toInt = 3 := by omega
          refine lv_tableIn (tgt := 96) hx hb dX12_look_26 (by omega) (by omega) (by rw [s_58]; rfl) (by decide) ?_
          refine lv_aload_n hx hb dX12_look_96 rfl (lv_at hl 0 rfl) ?_
          refine va_get (D := G.1) (ci := 12) (v := .int 1000000) (C := RX12) (T := TX12) (N := 52) hx hb hts inG_X12 hown hK hP 0 rfl rfl 36 (by decide) (hts _ fl_X12_361) (fun _ h9 => h9) rfl dX12_look_97 ?_
          have hP := hP.sub (ws' := []) [] rfl
          have hD := hD.sub (ws' := []) [] (by decide) rfl
          exact W.iret (v := 1000000) hx hb hr (fun t ht hW => ⟨⟨1000000, [], rfl, Or.inr (Or.inr (Or.inr (Or.inr (Or.inr (Or.inr (Or.inr (Or.inr (Or.inr (Or.inr (Or.inr (Or.inr (Or.inr (Or.inr (Or.inr (Or.inr (Or.inr (Or.inr (Or.inr (Or.inr (Or.inr (Or.inr (Or.inr (Or.inr (Or.inr (Or.inr (Or.inr (Or.inr (Or.inr (Or.inr (Or.inr (Or.inl (⟨z55, z56, z57, i_7, i_8, i_9, i_14, i_51, i_52, i_53, i_54, i_58, rfl, rfl⟩)))))))))))))))))))))))))))))))), by rw [ht]; exact hP, hD⟩, hS.F ht⟩) hS.2.2 dX12_look_100
        ·
          have i_58 : n3.toInt = 4 := by omega
          refine lv_tableIn (tgt := 101) hx hb dX12_look_26 (by omega) (by omega) (by rw [s_58]; rfl) (by decide) ?_
          refine lv_aload_n hx hb dX12_look_101 rfl (lv_at hl 0 rfl) ?_
          refine va_get (D := G.1) (ci := 12) (v := .int 0) (C := RX12) (T := TX12) (N := 52) hx hb hts inG_X12 hown hK hP 0 rfl rfl 39 (by decide) (hts _ fl_X12_368) (fun _ h9 => h9) rfl dX12_look_102 ?_
          have hP := hP.sub (ws' := []) [] rfl
          have hD := hD.sub (ws' := []) [] (by decide) rfl
          exact W.iret (v := 0) hx hb hr (fun t ht hW => ⟨⟨0, [], rfl, Or.inr (Or.inr (Or.inr (Or.inr (Or.inr (Or.inr (Or.inr (Or.inr (Or.inr (Or.inr (Or.inr (Or.inr (Or.inr (Or.inr (Or.inr (Or.inr (Or.inr (Or.inr (Or.inr (Or.inr (Or.inr (Or.inr (Or.inr (Or.inr (Or.inr (Or.inr (Or.inr (Or.inr (Or.inr (Or.inr (Or.inr (Or.inr (Or.inl (⟨z55, z56, z57, i_7, i_8, i_9, i_14, i_51, i_52, i_53, i_54, i_58, rfl, rfl⟩))))))))))))))))))))))))))))))))), by rw [ht]; exact hP, hD⟩, hS.F ht⟩) hS.2.2 dX12_look_105
        ·
          have i_58 : n3.toInt < 0 := by omega
          refine lv_tableOut (tgt := 106) hx hb dX12_look_26 (by omega) (by decide) ?_
          refine lv_iconst (v := (-1)) hx hb dX12_look_106 (by decide) ?_
          have hP := hP.sub (ws' := []) [] rfl
          have hD := hD.sub (ws' := []) [] (by decide) rfl
          exact W.iret (v := (-1)) hx hb hr (fun t ht hW => ⟨⟨(-1), [], rfl, Or.inr (Or.inr (Or.inr (Or.inr (Or.inr (Or.inr (Or.inr (Or.inr (Or.inr (Or.inr (Or.inr (Or.inr (Or.inr (Or.inr (Or.inr (Or.inr (Or.inr (Or.inr (Or.inr (Or.inr (Or.inr (Or.inr (Or.inr (Or.inr (Or.inr (Or.inr (Or.inr (Or.inr (Or.inr (Or.inr (Or.inr (Or.inr (Or.inr (Or.inl (⟨z55, z56, z57, i_7, i_8, i_9, i_14, i_51, i_52, i_53, i_54, i_58, rfl, rfl⟩)))))))))))))))))))))))))))))))))), by rw [ht]; exact hP, hD⟩, hS.F ht⟩) hS.2.2 dX12_look_107
        ·
          have i_58 : n3.toInt > 4 := by omega
          refine lv_tableOut (tgt := 106) hx hb dX12_look_26 (by omega) (by decide) ?_
          refine lv_iconst (v := (-1)) hx hb dX12_look_106 (by decide) ?_
          have hP := hP.sub (ws' := []) [] rfl
          have hD := hD.sub (ws' := []) [] (by decide) rfl
          exact W.iret (v := (-1)) hx hb hr (fun t ht hW => ⟨⟨(-1), [], rfl, Or.inr (Or.inr (Or.inr (Or.inr (Or.inr (Or.inr (Or.inr (Or.inr (Or.inr (Or.inr (Or.inr (Or.inr (Or.inr (Or.inr (Or.inr (Or.inr (Or.inr (Or.inr (Or.inr (Or.inr (Or.inr (Or.inr (Or.inr (Or.inr (Or.inr (Or.inr (Or.inr (Or.inr (Or.inr (Or.inr (Or.inr (Or.inr (Or.inr (Or.inr (⟨z55, z56, z57, i_7, i_8, i_9, i_14, i_51, i_52, i_53, i_54, i_58, rfl, rfl⟩)))))))))))))))))))))))))))))))))), by rw [ht]; exact hP, hD⟩, hS.F ht⟩) hS.2.2 dX12_look_107
    ·
      exact absurd c_13 (by decide)
theorem dX12_point_0 : decode cX12_point 0 = .ok (.aload_n 0, 1) := by decide +kernel
theorem dX12_point_1 : decode cX12_point 1 = .ok (.iconst 0, 1) := by decide +kernel
theorem dX12_point_2 : decode cX12_point 2 = .ok (.putfield 107, 3) := by decide +kernel
theorem dX12_point_5 : decode cX12_point 5 = .ok (.iload_n 1, 1) := by decide +kernel
theorem dX12_point_6 : decode cX12_point 6 = .ok (.iload_n 2, 1) := by decide +kernel
theorem dX12_point_7 : decode cX12_point 7 = .ok (.iload_n 3, 1) := by decide +kernel
theorem dX12_point_8 : decode cX12_point 8 = .ok (.invokestatic 397, 3) := by decide +kernel
theorem dX12_point_11 : decode cX12_point 11 = .ok (.ifCond .ne 5, 3) := by decide +kernel
theorem dX12_point_14 : decode cX12_point 14 = .ok (.iconst (-1), 1) := by decide +kernel
theorem dX12_point_15 : decode cX12_point 15 = .ok (.ireturn, 1) := by decide +kernel
theorem dX12_point_16 : decode cX12_point 16 = .ok (.aload_n 0, 1) := by decide +kernel
theorem dX12_point_17 : decode cX12_point 17 = .ok (.iload_n 1, 1) := by decide +kernel
theorem dX12_point_18 : decode cX12_point 18 = .ok (.iload_n 2, 1) := by decide +kernel
theorem dX12_point_19 : decode cX12_point 19 = .ok (.iload_n 3, 1) := by decide +kernel
theorem dX12_point_20 : decode cX12_point 20 = .ok (.iconst 0, 1) := by decide +kernel
theorem dX12_point_21 : decode cX12_point 21 = .ok (.invokevirtual 401, 3) := by decide +kernel
theorem dX12_point_24 : decode cX12_point 24 = .ok (.iload 4, 2) := by decide +kernel
theorem dX12_point_26 : decode cX12_point 26 = .ok (.i2l, 1) := by decide +kernel
theorem dX12_point_27 : decode cX12_point 27 = .ok (.lconst 0, 1) := by decide +kernel
theorem dX12_point_28 : decode cX12_point 28 = .ok (.aload_n 0, 1) := by decide +kernel
theorem dX12_point_29 : decode cX12_point 29 = .ok (.getfield 358, 3) := by decide +kernel
theorem dX12_point_32 : decode cX12_point 32 = .ok (.i2l, 1) := by decide +kernel
theorem dX12_point_33 : decode cX12_point 33 = .ok (.lconst 1, 1) := by decide +kernel
theorem dX12_point_34 : decode cX12_point 34 = .ok (.lsub, 1) := by decide +kernel
theorem dX12_point_35 : decode cX12_point 35 = .ok (.invokestatic 121, 3) := by decide +kernel
theorem dX12_point_38 : decode cX12_point 38 = .ok (.ifCond .eq 13, 3) := by decide +kernel
theorem dX12_point_41 : decode cX12_point 41 = .ok (.aload_n 0, 1) := by decide +kernel
theorem dX12_point_42 : decode cX12_point 42 = .ok (.getfield 82, 3) := by decide +kernel
theorem dX12_point_45 : decode cX12_point 45 = .ok (.iload 4, 2) := by decide +kernel
theorem dX12_point_47 : decode cX12_point 47 = .ok (.iaload, 1) := by decide +kernel
theorem dX12_point_48 : decode cX12_point 48 = .ok (.goto 4, 3) := by decide +kernel
theorem dX12_point_51 : decode cX12_point 51 = .ok (.iconst (-1), 1) := by decide +kernel
theorem dX12_point_52 : decode cX12_point 52 = .ok (.ireturn, 1) := by decide +kernel
set_option maxHeartbeats 4000000 in
set_option maxRecDepth 100000 in
theorem kX12_point (l : Launch) (G : g5_G) (a0 a1 a2 a3 a4 a5 a6 a7 a8 a9 a10 a11 a12 a13 a14 a15 a16 a17 a18 a19 a20 a21 a22 : Nat) (sz : Nat) (n0 : Int32) (n1 : Int32) (n2 : Int32) (n3 : Int32) : Met l yX12_point (wsG yX12_point cX12_point 5 (some .int)) ({ frames := 3, cells := 0, slots := 0, locals := 67 }) (va_Pc [.ref a0, .int n0, .int n1, .int n2, .int n3] (g5_P G [(a0, .inr (12, [.int 0, .int 0, .ref a1, .ref a2, .ref a3, .ref a4, .int 0, .ref a5, .int 0, .int 0, .int 0, .int 0, .long 0, .int (-1), .int 0, .int 0, .ref a6, .int 0, .ref a7, .ref a8, .int 0, .ref a9, .ref a10, .int 0, .int 0, .ref a11, .ref a12, .int 0, .ref a13, .ref a14, .int 0, .long 0, .long 0, .int 0, .int 0, .int 0, .int 0, .int 0, .ref a15, .int 0, .int 0, .ref a16, .int 0, .ref a17, .ref a18, .ref a19, .int 0, .ref a20, .ref a21, .long 0, .ref a22, .int 0])), (a2, .inl (G.2 0, 5740, .inl (upd (upd (upd (fun _ => 0) 3 (-1)) 4 1000) 6 (-1)))), (a15, .inl (G.2 0, 200, .inl (fun _ => 0)))] sz)) (va_Qi (fun (r : Int32) (u : va_W) => ((n0.toInt < 0 ∨ 63 < n0.toInt) ∧ (r = (-1)) ∧ (u = [])) ∨ ((0 ≤ n0.toInt ∧ n0.toInt ≤ 63) ∧ (n1.toInt < 0 ∨ 3 < n1.toInt) ∧ (r = (-1)) ∧ (u = [])) ∨ ((0 ≤ n0.toInt ∧ n0.toInt ≤ 63) ∧ (0 ≤ n1.toInt ∧ n1.toInt ≤ 3) ∧ (n2.toInt < 0 ∨ 23 < n2.toInt) ∧ (r = (-1)) ∧ (u = [])) ∨ (∃ (z19 : Int32) (z20 : Int32) (z21 : Nat → Int32), (0 ≤ n0.toInt ∧ n0.toInt ≤ 63) ∧ (0 ≤ n1.toInt ∧ n1.toInt ≤ 3) ∧ (0 ≤ n2.toInt ∧ n2.toInt ≤ 23) ∧ (n1.toInt = 0) ∧ (z19.toInt = n0.toInt / 8) ∧ (0 ≤ z19.toInt ∧ z19.toInt ≤ 7) ∧ (0 ≤ z20.toInt ∧ z20.toInt ≤ 63) ∧ (∀ j : Nat, (j : Int) < z19.toInt → (z21 j).toInt = n2.toInt * 64 + (n0.toInt - 8 * ((j : Int) + 1))) ∧ (n3.toInt < 0 ∨ z19.toInt ≤ n3.toInt) ∧ (r = (-1)) ∧ (u = [])) ∨ (∃ (z19 : Int32) (z20 : Int32) (z21 : Nat → Int32), (0 ≤ n0.toInt ∧ n0.toInt ≤ 63) ∧ (0 ≤ n1.toInt ∧ n1.toInt ≤ 3) ∧ (0 ≤ n2.toInt ∧ n2.toInt ≤ 23) ∧ (n1.toInt = 0) ∧ (z19.toInt = n0.toInt / 8) ∧ (0 ≤ z19.toInt ∧ z19.toInt ≤ 7) ∧ (0 ≤ z20.toInt ∧ z20.toInt ≤ 63) ∧ (∀ j : Nat, (j : Int) < z19.toInt → (z21 j).toInt = n2.toInt * 64 + (n0.toInt - 8 * ((j : Int) + 1))) ∧ (0 ≤ n3.toInt ∧ n3.toInt < z19.toInt) ∧ ((z21 n3.toNatClampNeg).toInt = (n2.toInt * 64 + (n0.toInt - 8 * (n3.toInt + 1)))) ∧ (r = (z21 n3.toNatClampNeg)) ∧ (u = [])) ∨ (∃ (z31 : Int32) (z32 : Int32) (z33 : Nat → Int32), (0 ≤ n0.toInt ∧ n0.toInt ≤ 63) ∧ (0 ≤ n1.toInt ∧ n1.toInt ≤ 3) ∧ (0 ≤ n2.toInt ∧ n2.toInt ≤ 23) ∧ (n1.toInt = 1) ∧ (z31.toInt = 7 - n0.toInt % 8) ∧ (0 ≤ z31.toInt ∧ z31.toInt ≤ 7) ∧ (0 ≤ z32.toInt ∧ z32.toInt ≤ 63) ∧ (∀ j : Nat, (j : Int) < z31.toInt → (z33 j).toInt = n2.toInt * 64 + (n0.toInt + ((j : Int) + 1))) ∧ (n3.toInt < 0 ∨ z31.toInt ≤ n3.toInt) ∧ (r = (-1)) ∧ (u = [])) ∨ (∃ (z31 : Int32) (z32 : Int32) (z33 : Nat → Int32), (0 ≤ n0.toInt ∧ n0.toInt ≤ 63) ∧ (0 ≤ n1.toInt ∧ n1.toInt ≤ 3) ∧ (0 ≤ n2.toInt ∧ n2.toInt ≤ 23) ∧ (n1.toInt = 1) ∧ (z31.toInt = 7 - n0.toInt % 8) ∧ (0 ≤ z31.toInt ∧ z31.toInt ≤ 7) ∧ (0 ≤ z32.toInt ∧ z32.toInt ≤ 63) ∧ (∀ j : Nat, (j : Int) < z31.toInt → (z33 j).toInt = n2.toInt * 64 + (n0.toInt + ((j : Int) + 1))) ∧ (0 ≤ n3.toInt ∧ n3.toInt < z31.toInt) ∧ ((z33 n3.toNatClampNeg).toInt = (n2.toInt * 64 + (n0.toInt + (n3.toInt + 1)))) ∧ (r = (z33 n3.toNatClampNeg)) ∧ (u = [])) ∨ (∃ (z43 : Int32) (z44 : Int32) (z45 : Nat → Int32), (0 ≤ n0.toInt ∧ n0.toInt ≤ 63) ∧ (0 ≤ n1.toInt ∧ n1.toInt ≤ 3) ∧ (0 ≤ n2.toInt ∧ n2.toInt ≤ 23) ∧ (n1.toInt = 2) ∧ (z43.toInt = 7 - n0.toInt / 8) ∧ (0 ≤ z43.toInt ∧ z43.toInt ≤ 7) ∧ (0 ≤ z44.toInt ∧ z44.toInt ≤ 63) ∧ (∀ j : Nat, (j : Int) < z43.toInt → (z45 j).toInt = n2.toInt * 64 + (n0.toInt + 8 * ((j : Int) + 1))) ∧ (n3.toInt < 0 ∨ z43.toInt ≤ n3.toInt) ∧ (r = (-1)) ∧ (u = [])) ∨ (∃ (z43 : Int32) (z44 : Int32) (z45 : Nat → Int32), (0 ≤ n0.toInt ∧ n0.toInt ≤ 63) ∧ (0 ≤ n1.toInt ∧ n1.toInt ≤ 3) ∧ (0 ≤ n2.toInt ∧ n2.toInt ≤ 23) ∧ (n1.toInt = 2) ∧ (z43.toInt = 7 - n0.toInt / 8) ∧ (0 ≤ z43.toInt ∧ z43.toInt ≤ 7) ∧ (0 ≤ z44.toInt ∧ z44.toInt ≤ 63) ∧ (∀ j : Nat, (j : Int) < z43.toInt → (z45 j).toInt = n2.toInt * 64 + (n0.toInt + 8 * ((j : Int) + 1))) ∧ (0 ≤ n3.toInt ∧ n3.toInt < z43.toInt) ∧ ((z45 n3.toNatClampNeg).toInt = (n2.toInt * 64 + (n0.toInt + 8 * (n3.toInt + 1)))) ∧ (r = (z45 n3.toNatClampNeg)) ∧ (u = [])) ∨ (∃ (z55 : Int32) (z56 : Int32) (z57 : Nat → Int32), (0 ≤ n0.toInt ∧ n0.toInt ≤ 63) ∧ (0 ≤ n1.toInt ∧ n1.toInt ≤ 3) ∧ (0 ≤ n2.toInt ∧ n2.toInt ≤ 23) ∧ (n1.toInt = 3) ∧ (z55.toInt = n0.toInt % 8) ∧ (0 ≤ z55.toInt ∧ z55.toInt ≤ 7) ∧ (0 ≤ z56.toInt ∧ z56.toInt ≤ 63) ∧ (∀ j : Nat, (j : Int) < z55.toInt → (z57 j).toInt = n2.toInt * 64 + (n0.toInt - ((j : Int) + 1))) ∧ (n3.toInt < 0 ∨ z55.toInt ≤ n3.toInt) ∧ (r = (-1)) ∧ (u = [])) ∨ (∃ (z55 : Int32) (z56 : Int32) (z57 : Nat → Int32), (0 ≤ n0.toInt ∧ n0.toInt ≤ 63) ∧ (0 ≤ n1.toInt ∧ n1.toInt ≤ 3) ∧ (0 ≤ n2.toInt ∧ n2.toInt ≤ 23) ∧ (n1.toInt = 3) ∧ (z55.toInt = n0.toInt % 8) ∧ (0 ≤ z55.toInt ∧ z55.toInt ≤ 7) ∧ (0 ≤ z56.toInt ∧ z56.toInt ≤ 63) ∧ (∀ j : Nat, (j : Int) < z55.toInt → (z57 j).toInt = n2.toInt * 64 + (n0.toInt - ((j : Int) + 1))) ∧ (0 ≤ n3.toInt ∧ n3.toInt < z55.toInt) ∧ ((z57 n3.toNatClampNeg).toInt = (n2.toInt * 64 + (n0.toInt - (n3.toInt + 1)))) ∧ (r = (z57 n3.toNatClampNeg)) ∧ (u = []))) (g5_B G (va_A [(a0, .inr (12, [.int 0, .int 0, .ref a1, .ref a2, .ref a3, .ref a4, .int 0, .ref a5, .int 0, .int 0, .int 0, .int 0, .long 0, .int (-1), .int 0, .int 0, .ref a6, .int 0, .ref a7, .ref a8, .int 0, .ref a9, .ref a10, .int 0, .int 0, .ref a11, .ref a12, .int 0, .ref a13, .ref a14, .int 0, .long 0, .long 0, .int 0, .int 0, .int 0, .int 0, .int 0, .ref a15, .int 0, .int 0, .ref a16, .int 0, .ref a17, .ref a18, .ref a19, .int 0, .ref a20, .ref a21, .long 0, .ref a22, .int 0])), (a2, .inl (G.2 0, 5740, .inl (upd (upd (upd (fun _ => 0) 3 (-1)) 4 1000) 6 (-1)))), (a15, .inl (G.2 0, 200, .inl (fun _ => 0)))] sz)) (va_A [(a0, .inr (12, [.int 0, .int 0, .ref a1, .ref a2, .ref a3, .ref a4, .int 0, .ref a5, .int 0, .int 0, .int 0, .int 0, .long 0, .int (-1), .int 0, .int 0, .ref a6, .int 0, .ref a7, .ref a8, .int 0, .ref a9, .ref a10, .int 0, .int 0, .ref a11, .ref a12, .int 0, .ref a13, .ref a14, .int 0, .long 0, .long 0, .int 0, .int 0, .int 0, .int 0, .int 0, .ref a15, .int 0, .int 0, .ref a16, .int 0, .ref a17, .ref a18, .ref a19, .int 0, .ref a20, .ref a21, .long 0, .ref a22, .int 0])), (a2, .inl (G.2 0, 5740, .inl (upd (upd (upd (fun _ => 0) 3 (-1)) 4 1000) 6 (-1)))), (a15, .inl (G.2 0, 200, .inl (fun _ => 0)))] sz)) 0 0 (va_A [(a0, .inr (12, [.int 0, .int 0, .ref a1, .ref a2, .ref a3, .ref a4, .int 0, .ref a5, .int 0, .int 0, .int 0, .int 0, .long 0, .int (-1), .int 0, .int 0, .ref a6, .int 0, .ref a7, .ref a8, .int 0, .ref a9, .ref a10, .int 0, .int 0, .ref a11, .ref a12, .int 0, .ref a13, .ref a14, .int 0, .long 0, .long 0, .int 0, .int 0, .int 0, .int 0, .int 0, .ref a15, .int 0, .int 0, .ref a16, .int 0, .ref a17, .ref a18, .ref a19, .int 0, .ref a20, .ref a21, .long 0, .ref a22, .int 0])), (a2, .inl (G.2 0, 5740, .inl (upd (upd (upd (fun _ => 0) 3 (-1)) 4 1000) 6 (-1)))), (a15, .inl (G.2 0, 200, .inl (fun _ => 0)))] sz) := by
  refine Met.ofW (cc := cX12_point) (maxL := 5) (ret := (some .int)) (by decide) rfl ?_
  intro p e s m args below meth c s₁ B hml hv
  obtain ⟨rfl, hsz, hP, hK, hD0, hN, hT⟩ := hv
  have hx := B.exec
  have hb := B.bytes
  have hr := B.returns
  have hts : ∀ w ∈ tblG, w.before _ s = true := fun w h => atoms_spec (ws := (wsG yX12_point cX12_point 5 (some .int))) B.pre w (List.mem_cons_of_mem _ h)
  have hown : s.vm.findClass RX12 = some m.cls := findClass_of_methodNamed B.named
  have hlocks := B.notSynchronized
  subst hsz
  have hD := hD0.self (sz := s.heap.size)
  generalize hAe : va_A [(a0, .inr (12, [.int 0, .int 0, .ref a1, .ref a2, .ref a3, .ref a4, .int 0, .ref a5, .int 0, .int 0, .int 0, .int 0, .long 0, .int (-1), .int 0, .int 0, .ref a6, .int 0, .ref a7, .ref a8, .int 0, .ref a9, .ref a10, .int 0, .int 0, .ref a11, .ref a12, .int 0, .ref a13, .ref a14, .int 0, .long 0, .long 0, .int 0, .int 0, .int 0, .int 0, .int 0, .ref a15, .int 0, .int 0, .ref a16, .int 0, .ref a17, .ref a18, .ref a19, .int 0, .ref a20, .ref a21, .long 0, .ref a22, .int 0])), (a2, .inl (G.2 0, 5740, .inl (upd (upd (upd (fun _ => 0) 3 (-1)) 4 1000) 6 (-1)))), (a15, .inl (G.2 0, 200, .inl (fun _ => 0)))] s.heap.size = A at hD hT ⊢
  have hA : ∀ q : Nat, s.heap.size ≤ q → A q := fun q h => by rw [← hAe]; exact Or.inr h
  have hS : va_S A s.heap s.heap [] := va_S.rf
  have hP : va_P G.1 vwCl [(a0, .inr (12, [.int 0, .int 0, .ref a1, .ref a2, .ref a3, .ref a4, .int 0, .ref a5, .int 0, .int 0, .int 0, .int 0, .long 0, .int (-1), .int 0, .int 0, .ref a6, .int 0, .ref a7, .ref a8, .int 0, .ref a9, .ref a10, .int 0, .int 0, .ref a11, .ref a12, .int 0, .ref a13, .ref a14, .int 0, .long 0, .long 0, .int 0, .int 0, .int 0, .int 0, .int 0, .ref a15, .int 0, .int 0, .ref a16, .int 0, .ref a17, .ref a18, .ref a19, .int 0, .ref a20, .ref a21, .long 0, .ref a22, .int 0])), (a2, .inl (G.2 0, 5740, .inl (upd (upd (upd (fun _ => 0) 3 (-1)) 4 1000) 6 (-1)))), (a15, .inl (G.2 0, 200, .inl (fun _ => 0)))] s.heap := hP
  have hl := lv_entry ([.ref a0, .int n0, .int n1, .int n2, .int n3]) (n := 5) (Nat.le_of_ble_eq_true rfl)
  rw [lg_entry_eq]
  generalize (lg_sl ([.ref a0, .int n0, .int n1, .int n2, .int n3]) ++ List.replicate (5 - (lg_sl ([.ref a0, .int n0, .int n1, .int n2, .int n3])).length) Slot.unset).toArray = ls at hl ⊢
  have hl : lv_has ls 5 [(0, .ref a0), (1, .int n0), (2, .int n1), (3, .int n2), (4, .int n3)] := hl
  refine lv_aload_n hx hb dX12_point_0 rfl (lv_at hl 0 rfl) ?_
  refine lv_iconst (v := 0) hx hb dX12_point_1 (by decide) ?_
  refine va_put (D := G.1) (ci := 12) (v := .int 0) (ty := .int) (C := RX12) (T := TX12) (N := 52) hx hb hts inG_X12 tyX12 tyX12_ok nmX12 hown hK hP hD hS 0 rfl rfl 0 (by decide) (hts _ fl_X12_107) (fun _ h9 => h9) rfl (by decide +kernel) rfl rfl (Nat.le_of_ble_eq_true rfl) dX12_point_2 (fun H locs hP hD hS => ?_)
  have hP : va_P G.1 vwCl [(a0, .inr (12, [.int 0, .int 0, .ref a1, .ref a2, .ref a3, .ref a4, .int 0, .ref a5, .int 0, .int 0, .int 0, .int 0, .long 0, .int (-1), .int 0, .int 0, .ref a6, .int 0, .ref a7, .ref a8, .int 0, .ref a9, .ref a10, .int 0, .int 0, .ref a11, .ref a12, .int 0, .ref a13, .ref a14, .int 0, .long 0, .long 0, .int 0, .int 0, .int 0, .int 0, .int 0, .ref a15, .int 0, .int 0, .ref a16, .int 0, .ref a17, .ref a18, .ref a19, .int 0, .ref a20, .ref a21, .long 0, .ref a22, .int 0])), (a2, .inl (G.2 0, 5740, .inl (upd (upd (upd (fun _ => 0) 3 (-1)) 4 1000) 6 (-1)))), (a15, .inl (G.2 0, 200, .inl (fun _ => 0)))] H := hP
  have hD : va_D A [(a0, .inr (12, [.int 0, .int 0, .ref a1, .ref a2, .ref a3, .ref a4, .int 0, .ref a5, .int 0, .int 0, .int 0, .int 0, .long 0, .int (-1), .int 0, .int 0, .ref a6, .int 0, .ref a7, .ref a8, .int 0, .ref a9, .ref a10, .int 0, .int 0, .ref a11, .ref a12, .int 0, .ref a13, .ref a14, .int 0, .long 0, .long 0, .int 0, .int 0, .int 0, .int 0, .int 0, .ref a15, .int 0, .int 0, .ref a16, .int 0, .ref a17, .ref a18, .ref a19, .int 0, .ref a20, .ref a21, .long 0, .ref a22, .int 0])), (a2, .inl (G.2 0, 5740, .inl (upd (upd (upd (fun _ => 0) 3 (-1)) 4 1000) 6 (-1)))), (a15, .inl (G.2 0, 200, .inl (fun _ => 0)))] := hD
  refine lv_iload_n hx hb dX12_point_5 rfl (lv_at hl 1 rfl) ?_
  refine lv_iload_n hx hb dX12_point_6 rfl (lv_at hl 2 rfl) ?_
  refine lv_iload_n hx hb dX12_point_7 rfl (lv_at hl 3 rfl) ?_
  have hPc := hP.sub (ws' := []) [] rfl
  have hDc := hD.sub (ws' := []) [] (by decide) rfl
  have hFc := va_free (wc := []) hD hS hA [] rfl
  refine va_calli (va_runS (As := [.int n0, .int n1, .int n2]) (rest := []) ⟨hx, hb, hml, hown, hts⟩ (kX12_isLook l G H.size n0 n1 n2) (va_cwS 3 hts gS_X12_397 rfl rfl rfl hs_X12_isLook ⟨Nat.le_of_ble_eq_true rfl, Nat.le_of_ble_eq_true rfl⟩) (g5_preS hPc hK hDc hN hT hS hFc) rfl rfl hl.1 rfl (lv_room (Nat.le_of_ble_eq_true rfl)) dX12_point_8 ⟨Nat.le_of_ble_eq_true rfl, Nat.le_of_ble_eq_true rfl⟩) hS (fun q _ h => hFc q h) hFc (fun r u t H1 locs ht hvm hw hB hz1 hk1 hS => ?_)
  obtain ⟨hP1, hD1⟩ := hB
  rw [ht] at hP1
  rcases hw with ⟨i_1, rfl, rfl⟩ | ⟨i_2, i_3, rfl, rfl⟩ | ⟨i_4, i_5, i_6, rfl, rfl⟩ | ⟨i_7, i_8, i_9, rfl, rfl⟩
  ·
    have hP := g5_same hP hk1
    generalize H1 = H at hP hS ⊢
    refine lv_if_ne (tgt := 16) hx hb dX12_point_11 (by decide) (fun c_10 => ?_) (fun c_10 => ?_)
    ·
      exact absurd c_10 (by decide)
    ·
      refine lv_iconst (v := (-1)) hx hb dX12_point_14 (by decide) ?_
      have hP := hP.sub (ws' := []) [] rfl
      have hD := hD.sub (ws' := []) [] (by decide) rfl
      exact W.iret (v := (-1)) hx hb hr (fun t ht hW => ⟨⟨(-1), [], rfl, Or.inl (⟨i_1, rfl, rfl⟩), by rw [ht]; exact hP, hD⟩, hS.F ht⟩) hS.2.2 dX12_point_15
  ·
    have hP := g5_same hP hk1
    generalize H1 = H at hP hS ⊢
    refine lv_if_ne (tgt := 16) hx hb dX12_point_11 (by decide) (fun c_11 => ?_) (fun c_11 => ?_)
    ·
      exact absurd c_11 (by decide)
    ·
      refine lv_iconst (v := (-1)) hx hb dX12_point_14 (by decide) ?_
      have hP := hP.sub (ws' := []) [] rfl
      have hD := hD.sub (ws' := []) [] (by decide) rfl
      exact W.iret (v := (-1)) hx hb hr (fun t ht hW => ⟨⟨(-1), [], rfl, Or.inr (Or.inl (⟨i_2, i_3, rfl, rfl⟩)), by rw [ht]; exact hP, hD⟩, hS.F ht⟩) hS.2.2 dX12_point_15
  ·
    have hP := g5_same hP hk1
    generalize H1 = H at hP hS ⊢
    refine lv_if_ne (tgt := 16) hx hb dX12_point_11 (by decide) (fun c_12 => ?_) (fun c_12 => ?_)
    ·
      exact absurd c_12 (by decide)
    ·
      refine lv_iconst (v := (-1)) hx hb dX12_point_14 (by decide) ?_
      have hP := hP.sub (ws' := []) [] rfl
      have hD := hD.sub (ws' := []) [] (by decide) rfl
      exact W.iret (v := (-1)) hx hb hr (fun t ht hW => ⟨⟨(-1), [], rfl, Or.inr (Or.inr (Or.inl (⟨i_4, i_5, i_6, rfl, rfl⟩))), by rw [ht]; exact hP, hD⟩, hS.F ht⟩) hS.2.2 dX12_point_15
  ·
    have hP := g5_same hP hk1
    generalize H1 = H at hP hS ⊢
    refine lv_if_ne (tgt := 16) hx hb dX12_point_11 (by decide) (fun c_13 => ?_) (fun c_13 => ?_)
    ·
      refine lv_aload_n hx hb dX12_point_16 rfl (lv_at hl 0 rfl) ?_
      refine lv_iload_n hx hb dX12_point_17 rfl (lv_at hl 1 rfl) ?_
      refine lv_iload_n hx hb dX12_point_18 rfl (lv_at hl 2 rfl) ?_
      refine lv_iload_n hx hb dX12_point_19 rfl (lv_at hl 3 rfl) ?_
      refine lv_iconst (v := 0) hx hb dX12_point_20 (by decide) ?_
      rcases (show n1.toInt = 0 ∨ n1.toInt = 1 ∨ n1.toInt = 2 ∨ n1.toInt = 3 by omega) with i_14 | i_14 | i_14 | i_14
      ·
        have e_14 : n1 = 0 := g5_toc (by decide) i_14
        subst e_14
        have hPc := hP.sub (ws' := [(a0, .inr (12, [.int 0, .int 0, .ref a1, .ref a2, .ref a3, .ref a4, .int 0, .ref a5, .int 0, .int 0, .int 0, .int 0, .long 0, .int (-1), .int 0, .int 0, .ref a6, .int 0, .ref a7, .ref a8, .int 0, .ref a9, .ref a10, .int 0, .int 0, .ref a11, .ref a12, .int 0, .ref a13, .ref a14, .int 0, .long 0, .long 0, .int 0, .int 0, .int 0, .int 0, .int 0, .ref a15, .int 0, .int 0, .ref a16, .int 0, .ref a17, .ref a18, .ref a19, .int 0, .ref a20, .ref a21, .long 0, .ref a22, .int 0])), (a2, .inl (G.2 0, 5740, .inl (upd (upd (upd (fun _ => 0) 3 (-1)) 4 1000) 6 (-1)))), (a15, .inl (G.2 0, 200, .inl (fun _ => 0)))]) [0, 1, 2] rfl
        have hDc := hD.sub (ws' := [(a0, .inr (12, [.int 0, .int 0, .ref a1, .ref a2, .ref a3, .ref a4, .int 0, .ref a5, .int 0, .int 0, .int 0, .int 0, .long 0, .int (-1), .int 0, .int 0, .ref a6, .int 0, .ref a7, .ref a8, .int 0, .ref a9, .ref a10, .int 0, .int 0, .ref a11, .ref a12, .int 0, .ref a13, .ref a14, .int 0, .long 0, .long 0, .int 0, .int 0, .int 0, .int 0, .int 0, .ref a15, .int 0, .int 0, .ref a16, .int 0, .ref a17, .ref a18, .ref a19, .int 0, .ref a20, .ref a21, .long 0, .ref a22, .int 0])), (a2, .inl (G.2 0, 5740, .inl (upd (upd (upd (fun _ => 0) 3 (-1)) 4 1000) 6 (-1)))), (a15, .inl (G.2 0, 200, .inl (fun _ => 0)))]) [0, 1, 2] (by decide) rfl
        have hFc := va_free (wc := [(a0, .inr (12, [.int 0, .int 0, .ref a1, .ref a2, .ref a3, .ref a4, .int 0, .ref a5, .int 0, .int 0, .int 0, .int 0, .long 0, .int (-1), .int 0, .int 0, .ref a6, .int 0, .ref a7, .ref a8, .int 0, .ref a9, .ref a10, .int 0, .int 0, .ref a11, .ref a12, .int 0, .ref a13, .ref a14, .int 0, .long 0, .long 0, .int 0, .int 0, .int 0, .int 0, .int 0, .ref a15, .int 0, .int 0, .ref a16, .int 0, .ref a17, .ref a18, .ref a19, .int 0, .ref a20, .ref a21, .long 0, .ref a22, .int 0])), (a2, .inl (G.2 0, 5740, .inl (upd (upd (upd (fun _ => 0) 3 (-1)) 4 1000) 6 (-1)))), (a15, .inl (G.2 0, 200, .inl (fun _ => 0)))]) hD hS hA [0, 1, 2] rfl
        refine va_callv (va_runV (As := [.int n0, .int 0, .int n2, .int 0]) (rest := []) ⟨hx, hb, hml, hown, hts⟩ (k_go0 l G a0 a2 a15 a1 a3 a4 a5 a6 a7 a8 a9 a10 a11 a12 a13 a14 a16 a17 a18 a19 a20 a21 a22 H.size n0 n2 0 0 0 0 0 0 0 0 (fun _ => 0) ⟨by omega, by omega⟩ ⟨by omega, by omega⟩) (cwV 4 hts gV_X12_401 rfl rfl rfl hv_X12_go ⟨Nat.le_of_ble_eq_true rfl, Nat.le_of_ble_eq_true rfl⟩) (g5_preV hPc hK hDc hN hT hS hFc (ci := 12) (q0 := 0) rfl rfl) rfl rfl hl.1 rfl (lv_room (Nat.le_of_ble_eq_true rfl)) dX12_point_21 ⟨Nat.le_of_ble_eq_true rfl, Nat.le_of_ble_eq_true rfl⟩) hS (fun q _ h => hFc q h) hFc (fun u t H1 locs ht hvm hw hB hz1 hk1 hS => ?_)
        obtain ⟨hP1, hD1⟩ := hB
        rw [ht] at hP1
        obtain ⟨z19, z20, z21, i_15, i_16, i_17, i_18, rfl⟩ := hw
        have i_15 : z19.toInt = n0.toInt / 8 := i_15
        have i_16 : 0 ≤ z19.toInt ∧ z19.toInt ≤ 7 := i_16
        have i_17 : 0 ≤ z20.toInt ∧ z20.toInt ≤ 63 := i_17
        have i_18 : ∀ j : Nat, (j : Int) < z19.toInt → (z21 j).toInt = n2.toInt * 64 + (n0.toInt - 8 * ((j : Int) + 1)) := i_18
        obtain ⟨hP, hD⟩ := va_join (wr := []) (w1 := [(a0, .inr (12, [.int 0, .int 0, .ref a1, .ref a2, .ref a3, .ref a4, .int 0, .ref a5, .int 0, .int 0, .int 0, .int 0, .long 0, .int (-1), .int 0, .int 0, .ref a6, .int 0, .ref a7, .ref a8, .int 0, .ref a9, .ref a10, .int 0, .int 0, .ref a11, .ref a12, .int 0, .ref a13, .ref a14, .int 0, .long 0, .long 0, .int z20, .int n2, .int 0, .int 1000000, .int z19, .ref a15, .int 0, .int (-1), .ref a16, .int 0, .ref a17, .ref a18, .ref a19, .int 0, .ref a20, .ref a21, .long 0, .ref a22, .int 0])), (a2, .inl (G.2 0, 5740, .inl (upd (upd (upd (fun _ => 0) 3 (-1)) 4 1000) 6 (-1)))), (a15, .inl (G.2 0, 200, .inl z21))]) hP hD [0, 1, 2] [] rfl rfl (by decide) (by decide) hk1 hFc hP1 hD1
        generalize H1 = H at hP hS ⊢
        have hP : va_P G.1 vwCl [(a0, .inr (12, [.int 0, .int 0, .ref a1, .ref a2, .ref a3, .ref a4, .int 0, .ref a5, .int 0, .int 0, .int 0, .int 0, .long 0, .int (-1), .int 0, .int 0, .ref a6, .int 0, .ref a7, .ref a8, .int 0, .ref a9, .ref a10, .int 0, .int 0, .ref a11, .ref a12, .int 0, .ref a13, .ref a14, .int 0, .long 0, .long 0, .int z20, .int n2, .int 0, .int 1000000, .int z19, .ref a15, .int 0, .int (-1), .ref a16, .int 0, .ref a17, .ref a18, .ref a19, .int 0, .ref a20, .ref a21, .long 0, .ref a22, .int 0])), (a2, .inl (G.2 0, 5740, .inl (upd (upd (upd (fun _ => 0) 3 (-1)) 4 1000) 6 (-1)))), (a15, .inl (G.2 0, 200, .inl z21))] H := hP
        have hD : va_D A [(a0, .inr (12, [.int 0, .int 0, .ref a1, .ref a2, .ref a3, .ref a4, .int 0, .ref a5, .int 0, .int 0, .int 0, .int 0, .long 0, .int (-1), .int 0, .int 0, .ref a6, .int 0, .ref a7, .ref a8, .int 0, .ref a9, .ref a10, .int 0, .int 0, .ref a11, .ref a12, .int 0, .ref a13, .ref a14, .int 0, .long 0, .long 0, .int z20, .int n2, .int 0, .int 1000000, .int z19, .ref a15, .int 0, .int (-1), .ref a16, .int 0, .ref a17, .ref a18, .ref a19, .int 0, .ref a20, .ref a21, .long 0, .ref a22, .int 0])), (a2, .inl (G.2 0, 5740, .inl (upd (upd (upd (fun _ => 0) 3 (-1)) 4 1000) 6 (-1)))), (a15, .inl (G.2 0, 200, .inl z21))] := hD
        refine lv_iload hx hb dX12_point_24 (lv_at hl 4 rfl) ?_
        refine lv_i2l (v := n3.toInt64) hx hb dX12_point_26 rfl ?_
        refine lv_lconst (v := 0) hx hb dX12_point_27 (by decide) ?_
        refine lv_aload_n hx hb dX12_point_28 rfl (lv_at hl 0 rfl) ?_
        refine va_get (D := G.1) (ci := 12) (v := .int z19) (C := RX12) (T := TX12) (N := 52) hx hb hts inG_X12 hown hK hP 0 rfl rfl 37 (by decide) (hts _ fl_X12_358) (fun _ h9 => h9) rfl dX12_point_29 ?_
        refine lv_i2l (v := z19.toInt64) hx hb dX12_point_32 rfl ?_
        refine lv_lconst (v := 1) hx hb dX12_point_33 (by decide) ?_
        refine lv_lsub hx hb dX12_point_34 ?_
        have hPc := hP.sub (ws' := []) [] rfl
        have hDc := hD.sub (ws' := []) [] (by decide) rfl
        have hFc := va_free (wc := []) hD hS hA [] rfl
        refine va_calli (va_runS (As := [.long n3.toInt64, .long 0, .long (z19.toInt64 - 1)]) (rest := []) ⟨hx, hb, hml, hown, hts⟩ (k_in_pts l G H.size n3 z19 ⟨by omega, by omega⟩) (va_cwS 3 hts gS_X12_121 rfl rfl rfl hs_X12_in ⟨Nat.le_of_ble_eq_true rfl, Nat.le_of_ble_eq_true rfl⟩) (g5_preS hPc hK hDc hN hT hS hFc) rfl rfl hl.1 rfl (lv_room (Nat.le_of_ble_eq_true rfl)) dX12_point_35 ⟨Nat.le_of_ble_eq_true rfl, Nat.le_of_ble_eq_true rfl⟩) hS (fun q _ h => hFc q h) hFc (fun r u t H1 locs ht hvm hw hB hz1 hk1 hS => ?_)
        obtain ⟨hP1, hD1⟩ := hB
        rw [ht] at hP1
        rcases hw with ⟨i_22, rfl, rfl⟩ | ⟨i_23, rfl, rfl⟩
        ·
          have i_22 : n3.toInt < 0 ∨ z19.toInt ≤ n3.toInt := i_22
          have hP := g5_same hP hk1
          generalize H1 = H at hP hS ⊢
          refine lv_if_eq (tgt := 51) hx hb dX12_point_38 (by decide) (fun c_24 => ?_) (fun c_24 => ?_)
          ·
            refine lv_iconst (v := (-1)) hx hb dX12_point_51 (by decide) ?_
            have hP := hP.sub (ws' := []) [] rfl
            have hD := hD.sub (ws' := []) [] (by decide) rfl
            exact W.iret (v := (-1)) hx hb hr (fun t ht hW => ⟨⟨(-1), [], rfl, Or.inr (Or.inr (Or.inr (Or.inl (⟨z19, z20, z21, i_7, i_8, i_9, i_14, i_15, i_16, i_17, i_18, i_22, rfl, rfl⟩)))), by rw [ht]; exact hP, hD⟩, hS.F ht⟩) hS.2.2 dX12_point_52
          ·
            exact absurd c_24 (by decide)
        ·
          have i_23 : 0 ≤ n3.toInt ∧ n3.toInt < z19.toInt := i_23
          have hP := g5_same hP hk1
          generalize H1 = H at hP hS ⊢
          refine lv_if_eq (tgt := 51) hx hb dX12_point_38 (by decide) (fun c_25 => ?_) (fun c_25 => ?_)
          ·
            exact absurd c_25 (by decide)
          ·
            refine lv_aload_n hx hb dX12_point_41 rfl (lv_at hl 0 rfl) ?_
            refine va_get (D := G.1) (ci := 12) (v := .ref a15) (C := RX12) (T := TX12) (N := 52) hx hb hts inG_X12 hown hK hP 0 rfl rfl 38 (by decide) (hts _ fl_X12_82) (fun _ h9 => h9) rfl dX12_point_42 ?_
            refine lv_iload hx hb dX12_point_45 (lv_at hl 4 rfl) ?_
            have tz_26 := g5_clamp n3
            have t_26 := i_18 (n3.toNatClampNeg) (by omega)
            refine va_iald hx hb hK hP 2 0 rfl rfl (i := n3) (vp_in_iff.mpr ⟨by omega, by omega⟩) dX12_point_47 ?_
            refine lv_goto (tgt := 52) hx hb dX12_point_48 (by decide) ?_
            have hP := hP.sub (ws' := []) [] rfl
            have hD := hD.sub (ws' := []) [] (by decide) rfl
            exact W.iret (v := (z21 n3.toNatClampNeg)) hx hb hr (fun t ht hW => ⟨⟨(z21 n3.toNatClampNeg), [], rfl, Or.inr (Or.inr (Or.inr (Or.inr (Or.inl (⟨z19, z20, z21, i_7, i_8, i_9, i_14, i_15, i_16, i_17, i_18, i_23, (by omega), rfl, rfl⟩))))), by rw [ht]; exact hP, hD⟩, hS.F ht⟩) hS.2.2 dX12_point_52
      ·
        have e_14 : n1 = 1 := g5_toc (by decide) i_14
        subst e_14
        have hPc := hP.sub (ws' := [(a0, .inr (12, [.int 0, .int 0, .ref a1, .ref a2, .ref a3, .ref a4, .int 0, .ref a5, .int 0, .int 0, .int 0, .int 0, .long 0, .int (-1), .int 0, .int 0, .ref a6, .int 0, .ref a7, .ref a8, .int 0, .ref a9, .ref a10, .int 0, .int 0, .ref a11, .ref a12, .int 0, .ref a13, .ref a14, .int 0, .long 0, .long 0, .int 0, .int 0, .int 0, .int 0, .int 0, .ref a15, .int 0, .int 0, .ref a16, .int 0, .ref a17, .ref a18, .ref a19, .int 0, .ref a20, .ref a21, .long 0, .ref a22, .int 0])), (a2, .inl (G.2 0, 5740, .inl (upd (upd (upd (fun _ => 0) 3 (-1)) 4 1000) 6 (-1)))), (a15, .inl (G.2 0, 200, .inl (fun _ => 0)))]) [0, 1, 2] rfl
        have hDc := hD.sub (ws' := [(a0, .inr (12, [.int 0, .int 0, .ref a1, .ref a2, .ref a3, .ref a4, .int 0, .ref a5, .int 0, .int 0, .int 0, .int 0, .long 0, .int (-1), .int 0, .int 0, .ref a6, .int 0, .ref a7, .ref a8, .int 0, .ref a9, .ref a10, .int 0, .int 0, .ref a11, .ref a12, .int 0, .ref a13, .ref a14, .int 0, .long 0, .long 0, .int 0, .int 0, .int 0, .int 0, .int 0, .ref a15, .int 0, .int 0, .ref a16, .int 0, .ref a17, .ref a18, .ref a19, .int 0, .ref a20, .ref a21, .long 0, .ref a22, .int 0])), (a2, .inl (G.2 0, 5740, .inl (upd (upd (upd (fun _ => 0) 3 (-1)) 4 1000) 6 (-1)))), (a15, .inl (G.2 0, 200, .inl (fun _ => 0)))]) [0, 1, 2] (by decide) rfl
        have hFc := va_free (wc := [(a0, .inr (12, [.int 0, .int 0, .ref a1, .ref a2, .ref a3, .ref a4, .int 0, .ref a5, .int 0, .int 0, .int 0, .int 0, .long 0, .int (-1), .int 0, .int 0, .ref a6, .int 0, .ref a7, .ref a8, .int 0, .ref a9, .ref a10, .int 0, .int 0, .ref a11, .ref a12, .int 0, .ref a13, .ref a14, .int 0, .long 0, .long 0, .int 0, .int 0, .int 0, .int 0, .int 0, .ref a15, .int 0, .int 0, .ref a16, .int 0, .ref a17, .ref a18, .ref a19, .int 0, .ref a20, .ref a21, .long 0, .ref a22, .int 0])), (a2, .inl (G.2 0, 5740, .inl (upd (upd (upd (fun _ => 0) 3 (-1)) 4 1000) 6 (-1)))), (a15, .inl (G.2 0, 200, .inl (fun _ => 0)))]) hD hS hA [0, 1, 2] rfl
        refine va_callv (va_runV (As := [.int n0, .int 1, .int n2, .int 0]) (rest := []) ⟨hx, hb, hml, hown, hts⟩ (k_go1 l G a0 a2 a15 a1 a3 a4 a5 a6 a7 a8 a9 a10 a11 a12 a13 a14 a16 a17 a18 a19 a20 a21 a22 H.size n0 n2 0 0 0 0 0 0 0 0 (fun _ => 0) ⟨by omega, by omega⟩ ⟨by omega, by omega⟩) (cwV 4 hts gV_X12_401 rfl rfl rfl hv_X12_go ⟨Nat.le_of_ble_eq_true rfl, Nat.le_of_ble_eq_true rfl⟩) (g5_preV hPc hK hDc hN hT hS hFc (ci := 12) (q0 := 0) rfl rfl) rfl rfl hl.1 rfl (lv_room (Nat.le_of_ble_eq_true rfl)) dX12_point_21 ⟨Nat.le_of_ble_eq_true rfl, Nat.le_of_ble_eq_true rfl⟩) hS (fun q _ h => hFc q h) hFc (fun u t H1 locs ht hvm hw hB hz1 hk1 hS => ?_)
        obtain ⟨hP1, hD1⟩ := hB
        rw [ht] at hP1
        obtain ⟨z31, z32, z33, i_27, i_28, i_29, i_30, rfl⟩ := hw
        have i_27 : z31.toInt = 7 - n0.toInt % 8 := i_27
        have i_28 : 0 ≤ z31.toInt ∧ z31.toInt ≤ 7 := i_28
        have i_29 : 0 ≤ z32.toInt ∧ z32.toInt ≤ 63 := i_29
        have i_30 : ∀ j : Nat, (j : Int) < z31.toInt → (z33 j).toInt = n2.toInt * 64 + (n0.toInt + ((j : Int) + 1)) := i_30
        obtain ⟨hP, hD⟩ := va_join (wr := []) (w1 := [(a0, .inr (12, [.int 0, .int 0, .ref a1, .ref a2, .ref a3, .ref a4, .int 0, .ref a5, .int 0, .int 0, .int 0, .int 0, .long 0, .int (-1), .int 0, .int 0, .ref a6, .int 0, .ref a7, .ref a8, .int 0, .ref a9, .ref a10, .int 0, .int 0, .ref a11, .ref a12, .int 0, .ref a13, .ref a14, .int 0, .long 0, .long 0, .int z32, .int n2, .int 1, .int 1000000, .int z31, .ref a15, .int 0, .int (-1), .ref a16, .int 0, .ref a17, .ref a18, .ref a19, .int 0, .ref a20, .ref a21, .long 0, .ref a22, .int 0])), (a2, .inl (G.2 0, 5740, .inl (upd (upd (upd (fun _ => 0) 3 (-1)) 4 1000) 6 (-1)))), (a15, .inl (G.2 0, 200, .inl z33))]) hP hD [0, 1, 2] [] rfl rfl (by decide) (by decide) hk1 hFc hP1 hD1
        generalize H1 = H at hP hS ⊢
        have hP : va_P G.1 vwCl [(a0, .inr (12, [.int 0, .int 0, .ref a1, .ref a2, .ref a3, .ref a4, .int 0, .ref a5, .int 0, .int 0, .int 0, .int 0, .long 0, .int (-1), .int 0, .int 0, .ref a6, .int 0, .ref a7, .ref a8, .int 0, .ref a9, .ref a10, .int 0, .int 0, .ref a11, .ref a12, .int 0, .ref a13, .ref a14, .int 0, .long 0, .long 0, .int z32, .int n2, .int 1, .int 1000000, .int z31, .ref a15, .int 0, .int (-1), .ref a16, .int 0, .ref a17, .ref a18, .ref a19, .int 0, .ref a20, .ref a21, .long 0, .ref a22, .int 0])), (a2, .inl (G.2 0, 5740, .inl (upd (upd (upd (fun _ => 0) 3 (-1)) 4 1000) 6 (-1)))), (a15, .inl (G.2 0, 200, .inl z33))] H := hP
        have hD : va_D A [(a0, .inr (12, [.int 0, .int 0, .ref a1, .ref a2, .ref a3, .ref a4, .int 0, .ref a5, .int 0, .int 0, .int 0, .int 0, .long 0, .int (-1), .int 0, .int 0, .ref a6, .int 0, .ref a7, .ref a8, .int 0, .ref a9, .ref a10, .int 0, .int 0, .ref a11, .ref a12, .int 0, .ref a13, .ref a14, .int 0, .long 0, .long 0, .int z32, .int n2, .int 1, .int 1000000, .int z31, .ref a15, .int 0, .int (-1), .ref a16, .int 0, .ref a17, .ref a18, .ref a19, .int 0, .ref a20, .ref a21, .long 0, .ref a22, .int 0])), (a2, .inl (G.2 0, 5740, .inl (upd (upd (upd (fun _ => 0) 3 (-1)) 4 1000) 6 (-1)))), (a15, .inl (G.2 0, 200, .inl z33))] := hD
        refine lv_iload hx hb dX12_point_24 (lv_at hl 4 rfl) ?_
        refine lv_i2l (v := n3.toInt64) hx hb dX12_point_26 rfl ?_
        refine lv_lconst (v := 0) hx hb dX12_point_27 (by decide) ?_
        refine lv_aload_n hx hb dX12_point_28 rfl (lv_at hl 0 rfl) ?_
        refine va_get (D := G.1) (ci := 12) (v := .int z31) (C := RX12) (T := TX12) (N := 52) hx hb hts inG_X12 hown hK hP 0 rfl rfl 37 (by decide) (hts _ fl_X12_358) (fun _ h9 => h9) rfl dX12_point_29 ?_
        refine lv_i2l (v := z31.toInt64) hx hb dX12_point_32 rfl ?_
        refine lv_lconst (v := 1) hx hb dX12_point_33 (by decide) ?_
        refine lv_lsub hx hb dX12_point_34 ?_
        have hPc := hP.sub (ws' := []) [] rfl
        have hDc := hD.sub (ws' := []) [] (by decide) rfl
        have hFc := va_free (wc := []) hD hS hA [] rfl
        refine va_calli (va_runS (As := [.long n3.toInt64, .long 0, .long (z31.toInt64 - 1)]) (rest := []) ⟨hx, hb, hml, hown, hts⟩ (k_in_pts l G H.size n3 z31 ⟨by omega, by omega⟩) (va_cwS 3 hts gS_X12_121 rfl rfl rfl hs_X12_in ⟨Nat.le_of_ble_eq_true rfl, Nat.le_of_ble_eq_true rfl⟩) (g5_preS hPc hK hDc hN hT hS hFc) rfl rfl hl.1 rfl (lv_room (Nat.le_of_ble_eq_true rfl)) dX12_point_35 ⟨Nat.le_of_ble_eq_true rfl, Nat.le_of_ble_eq_true rfl⟩) hS (fun q _ h => hFc q h) hFc (fun r u t H1 locs ht hvm hw hB hz1 hk1 hS => ?_)
        obtain ⟨hP1, hD1⟩ := hB
        rw [ht] at hP1
        rcases hw with ⟨i_34, rfl, rfl⟩ | ⟨i_35, rfl, rfl⟩
        ·
          have i_34 : n3.toInt < 0 ∨ z31.toInt ≤ n3.toInt := i_34
          have hP := g5_same hP hk1
          generalize H1 = H at hP hS ⊢
          refine lv_if_eq (tgt := 51) hx hb dX12_point_38 (by decide) (fun c_36 => ?_) (fun c_36 => ?_)
          ·
            refine lv_iconst (v := (-1)) hx hb dX12_point_51 (by decide) ?_
            have hP := hP.sub (ws' := []) [] rfl
            have hD := hD.sub (ws' := []) [] (by decide) rfl
            exact W.iret (v := (-1)) hx hb hr (fun t ht hW => ⟨⟨(-1), [], rfl, Or.inr (Or.inr (Or.inr (Or.inr (Or.inr (Or.inl (⟨z31, z32, z33, i_7, i_8, i_9, i_14, i_27, i_28, i_29, i_30, i_34, rfl, rfl⟩)))))), by rw [ht]; exact hP, hD⟩, hS.F ht⟩) hS.2.2 dX12_point_52
          ·
            exact absurd c_36 (by decide)
        ·
          have i_35 : 0 ≤ n3.toInt ∧ n3.toInt < z31.toInt := i_35
          have hP := g5_same hP hk1
          generalize H1 = H at hP hS ⊢
          refine lv_if_eq (tgt := 51) hx hb dX12_point_38 (by decide) (fun c_37 => ?_) (fun c_37 => ?_)
          ·
            exact absurd c_37 (by decide)
          ·
            refine lv_aload_n hx hb dX12_point_41 rfl (lv_at hl 0 rfl) ?_
            refine va_get (D := G.1) (ci := 12) (v := .ref a15) (C := RX12) (T := TX12) (N := 52) hx hb hts inG_X12 hown hK hP 0 rfl rfl 38 (by decide) (hts _ fl_X12_82) (fun _ h9 => h9) rfl dX12_point_42 ?_
            refine lv_iload hx hb dX12_point_45 (lv_at hl 4 rfl) ?_
            have tz_38 := g5_clamp n3
            have t_38 := i_30 (n3.toNatClampNeg) (by omega)
            refine va_iald hx hb hK hP 2 0 rfl rfl (i := n3) (vp_in_iff.mpr ⟨by omega, by omega⟩) dX12_point_47 ?_
            refine lv_goto (tgt := 52) hx hb dX12_point_48 (by decide) ?_
            have hP := hP.sub (ws' := []) [] rfl
            have hD := hD.sub (ws' := []) [] (by decide) rfl
            exact W.iret (v := (z33 n3.toNatClampNeg)) hx hb hr (fun t ht hW => ⟨⟨(z33 n3.toNatClampNeg), [], rfl, Or.inr (Or.inr (Or.inr (Or.inr (Or.inr (Or.inr (Or.inl (⟨z31, z32, z33, i_7, i_8, i_9, i_14, i_27, i_28, i_29, i_30, i_35, (by omega), rfl, rfl⟩))))))), by rw [ht]; exact hP, hD⟩, hS.F ht⟩) hS.2.2 dX12_point_52
      ·
        have e_14 : n1 = 2 := g5_toc (by decide) i_14
        subst e_14
        have hPc := hP.sub (ws' := [(a0, .inr (12, [.int 0, .int 0, .ref a1, .ref a2, .ref a3, .ref a4, .int 0, .ref a5, .int 0, .int 0, .int 0, .int 0, .long 0, .int (-1), .int 0, .int 0, .ref a6, .int 0, .ref a7, .ref a8, .int 0, .ref a9, .ref a10, .int 0, .int 0, .ref a11, .ref a12, .int 0, .ref a13, .ref a14, .int 0, .long 0, .long 0, .int 0, .int 0, .int 0, .int 0, .int 0, .ref a15, .int 0, .int 0, .ref a16, .int 0, .ref a17, .ref a18, .ref a19, .int 0, .ref a20, .ref a21, .long 0, .ref a22, .int 0])), (a2, .inl (G.2 0, 5740, .inl (upd (upd (upd (fun _ => 0) 3 (-1)) 4 1000) 6 (-1)))), (a15, .inl (G.2 0, 200, .inl (fun _ => 0)))]) [0, 1, 2] rfl
        have hDc := hD.sub (ws' := [(a0, .inr (12, [.int 0, .int 0, .ref a1, .ref a2, .ref a3, .ref a4, .int 0, .ref a5, .int 0, .int 0, .int 0, .int 0, .long 0, .int (-1), .int 0, .int 0, .ref a6, .int 0, .ref a7, .ref a8, .int 0, .ref a9, .ref a10, .int 0, .int 0, .ref a11, .ref a12, .int 0, .ref a13, .ref a14, .int 0, .long 0, .long 0, .int 0, .int 0, .int 0, .int 0, .int 0, .ref a15, .int 0, .int 0, .ref a16, .int 0, .ref a17, .ref a18, .ref a19, .int 0, .ref a20, .ref a21, .long 0, .ref a22, .int 0])), (a2, .inl (G.2 0, 5740, .inl (upd (upd (upd (fun _ => 0) 3 (-1)) 4 1000) 6 (-1)))), (a15, .inl (G.2 0, 200, .inl (fun _ => 0)))]) [0, 1, 2] (by decide) rfl
        have hFc := va_free (wc := [(a0, .inr (12, [.int 0, .int 0, .ref a1, .ref a2, .ref a3, .ref a4, .int 0, .ref a5, .int 0, .int 0, .int 0, .int 0, .long 0, .int (-1), .int 0, .int 0, .ref a6, .int 0, .ref a7, .ref a8, .int 0, .ref a9, .ref a10, .int 0, .int 0, .ref a11, .ref a12, .int 0, .ref a13, .ref a14, .int 0, .long 0, .long 0, .int 0, .int 0, .int 0, .int 0, .int 0, .ref a15, .int 0, .int 0, .ref a16, .int 0, .ref a17, .ref a18, .ref a19, .int 0, .ref a20, .ref a21, .long 0, .ref a22, .int 0])), (a2, .inl (G.2 0, 5740, .inl (upd (upd (upd (fun _ => 0) 3 (-1)) 4 1000) 6 (-1)))), (a15, .inl (G.2 0, 200, .inl (fun _ => 0)))]) hD hS hA [0, 1, 2] rfl
        refine va_callv (va_runV (As := [.int n0, .int 2, .int n2, .int 0]) (rest := []) ⟨hx, hb, hml, hown, hts⟩ (k_go2 l G a0 a2 a15 a1 a3 a4 a5 a6 a7 a8 a9 a10 a11 a12 a13 a14 a16 a17 a18 a19 a20 a21 a22 H.size n0 n2 0 0 0 0 0 0 0 0 (fun _ => 0) ⟨by omega, by omega⟩ ⟨by omega, by omega⟩) (cwV 4 hts gV_X12_401 rfl rfl rfl hv_X12_go ⟨Nat.le_of_ble_eq_true rfl, Nat.le_of_ble_eq_true rfl⟩) (g5_preV hPc hK hDc hN hT hS hFc (ci := 12) (q0 := 0) rfl rfl) rfl rfl hl.1 rfl (lv_room (Nat.le_of_ble_eq_true rfl)) dX12_point_21 ⟨Nat.le_of_ble_eq_true rfl, Nat.le_of_ble_eq_true rfl⟩) hS (fun q _ h => hFc q h) hFc (fun u t H1 locs ht hvm hw hB hz1 hk1 hS => ?_)
        obtain ⟨hP1, hD1⟩ := hB
        rw [ht] at hP1
        obtain ⟨z43, z44, z45, i_39, i_40, i_41, i_42, rfl⟩ := hw
        have i_39 : z43.toInt = 7 - n0.toInt / 8 := i_39
        have i_40 : 0 ≤ z43.toInt ∧ z43.toInt ≤ 7 := i_40
        have i_41 : 0 ≤ z44.toInt ∧ z44.toInt ≤ 63 := i_41
        have i_42 : ∀ j : Nat, (j : Int) < z43.toInt → (z45 j).toInt = n2.toInt * 64 + (n0.toInt + 8 * ((j : Int) + 1)) := i_42
        obtain ⟨hP, hD⟩ := va_join (wr := []) (w1 := [(a0, .inr (12, [.int 0, .int 0, .ref a1, .ref a2, .ref a3, .ref a4, .int 0, .ref a5, .int 0, .int 0, .int 0, .int 0, .long 0, .int (-1), .int 0, .int 0, .ref a6, .int 0, .ref a7, .ref a8, .int 0, .ref a9, .ref a10, .int 0, .int 0, .ref a11, .ref a12, .int 0, .ref a13, .ref a14, .int 0, .long 0, .long 0, .int z44, .int n2, .int 2, .int 1000000, .int z43, .ref a15, .int 0, .int (-1), .ref a16, .int 0, .ref a17, .ref a18, .ref a19, .int 0, .ref a20, .ref a21, .long 0, .ref a22, .int 0])), (a2, .inl (G.2 0, 5740, .inl (upd (upd (upd (fun _ => 0) 3 (-1)) 4 1000) 6 (-1)))), (a15, .inl (G.2 0, 200, .inl z45))]) hP hD [0, 1, 2] [] rfl rfl (by decide) (by decide) hk1 hFc hP1 hD1
        generalize H1 = H at hP hS ⊢
        have hP : va_P G.1 vwCl [(a0, .inr (12, [.int 0, .int 0, .ref a1, .ref a2, .ref a3, .ref a4, .int 0, .ref a5, .int 0, .int 0, .int 0, .int 0, .long 0, .int (-1), .int 0, .int 0, .ref a6, .int 0, .ref a7, .ref a8, .int 0, .ref a9, .ref a10, .int 0, .int 0, .ref a11, .ref a12, .int 0, .ref a13, .ref a14, .int 0, .long 0, .long 0, .int z44, .int n2, .int 2, .int 1000000, .int z43, .ref a15, .int 0, .int (-1), .ref a16, .int 0, .ref a17, .ref a18, .ref a19, .int 0, .ref a20, .ref a21, .long 0, .ref a22, .int 0])), (a2, .inl (G.2 0, 5740, .inl (upd (upd (upd (fun _ => 0) 3 (-1)) 4 1000) 6 (-1)))), (a15, .inl (G.2 0, 200, .inl z45))] H := hP
        have hD : va_D A [(a0, .inr (12, [.int 0, .int 0, .ref a1, .ref a2, .ref a3, .ref a4, .int 0, .ref a5, .int 0, .int 0, .int 0, .int 0, .long 0, .int (-1), .int 0, .int 0, .ref a6, .int 0, .ref a7, .ref a8, .int 0, .ref a9, .ref a10, .int 0, .int 0, .ref a11, .ref a12, .int 0, .ref a13, .ref a14, .int 0, .long 0, .long 0, .int z44, .int n2, .int 2, .int 1000000, .int z43, .ref a15, .int 0, .int (-1), .ref a16, .int 0, .ref a17, .ref a18, .ref a19, .int 0, .ref a20, .ref a21, .long 0, .ref a22, .int 0])), (a2, .inl (G.2 0, 5740, .inl (upd (upd (upd (fun _ => 0) 3 (-1)) 4 1000) 6 (-1)))), (a15, .inl (G.2 0, 200, .inl z45))] := hD
        refine lv_iload hx hb dX12_point_24 (lv_at hl 4 rfl) ?_
        refine lv_i2l (v := n3.toInt64) hx hb dX12_point_26 rfl ?_
        refine lv_lconst (v := 0) hx hb dX12_point_27 (by decide) ?_
        refine lv_aload_n hx hb dX12_point_28 rfl (lv_at hl 0 rfl) ?_
        refine va_get (D := G.1) (ci := 12) (v := .int z43) (C := RX12) (T := TX12) (N := 52) hx hb hts inG_X12 hown hK hP 0 rfl rfl 37 (by decide) (hts _ fl_X12_358) (fun _ h9 => h9) rfl dX12_point_29 ?_
        refine lv_i2l (v := z43.toInt64) hx hb dX12_point_32 rfl ?_
        refine lv_lconst (v := 1) hx hb dX12_point_33 (by decide) ?_
        refine lv_lsub hx hb dX12_point_34 ?_
        have hPc := hP.sub (ws' := []) [] rfl
        have hDc := hD.sub (ws' := []) [] (by decide) rfl
        have hFc := va_free (wc := []) hD hS hA [] rfl
        refine va_calli (va_runS (As := [.long n3.toInt64, .long 0, .long (z43.toInt64 - 1)]) (rest := []) ⟨hx, hb, hml, hown, hts⟩ (k_in_pts l G H.size n3 z43 ⟨by omega, by omega⟩) (va_cwS 3 hts gS_X12_121 rfl rfl rfl hs_X12_in ⟨Nat.le_of_ble_eq_true rfl, Nat.le_of_ble_eq_true rfl⟩) (g5_preS hPc hK hDc hN hT hS hFc) rfl rfl hl.1 rfl (lv_room (Nat.le_of_ble_eq_true rfl)) dX12_point_35 ⟨Nat.le_of_ble_eq_true rfl, Nat.le_of_ble_eq_true rfl⟩) hS (fun q _ h => hFc q h) hFc (fun r u t H1 locs ht hvm hw hB hz1 hk1 hS => ?_)
        obtain ⟨hP1, hD1⟩ := hB
        rw [ht] at hP1
        rcases hw with ⟨i_46, rfl, rfl⟩ | ⟨i_47, rfl, rfl⟩
        ·
          have i_46 : n3.toInt < 0 ∨ z43.toInt ≤ n3.toInt := i_46
          have hP := g5_same hP hk1
          generalize H1 = H at hP hS ⊢
          refine lv_if_eq (tgt := 51) hx hb dX12_point_38 (by decide) (fun c_48 => ?_) (fun c_48 => ?_)
          ·
            refine lv_iconst (v := (-1)) hx hb dX12_point_51 (by decide) ?_
            have hP := hP.sub (ws' := []) [] rfl
            have hD := hD.sub (ws' := []) [] (by decide) rfl
            exact W.iret (v := (-1)) hx hb hr (fun t ht hW => ⟨⟨(-1), [], rfl, Or.inr (Or.inr (Or.inr (Or.inr (Or.inr (Or.inr (Or.inr (Or.inl (⟨z43, z44, z45, i_7, i_8, i_9, i_14, i_39, i_40, i_41, i_42, i_46, rfl, rfl⟩)))))))), by rw [ht]; exact hP, hD⟩, hS.F ht⟩) hS.2.2 dX12_point_52
          ·
            exact absurd c_48 (by decide)
        ·
          have i_47 : 0 ≤ n3.toInt ∧ n3.toInt < z43.toInt := i_47
          have hP := g5_same hP hk1
          generalize H1 = H at hP hS ⊢
          refine lv_if_eq (tgt := 51) hx hb dX12_point_38 (by decide) (fun c_49 => ?_) (fun c_49 => ?_)
          ·
            exact absurd c_49 (by decide)
          ·
            refine lv_aload_n hx hb dX12_point_41 rfl (lv_at hl 0 rfl) ?_
            refine va_get (D := G.1) (ci := 12) (v := .ref a15) (C := RX12) (T := TX12) (N := 52) hx hb hts inG_X12 hown hK hP 0 rfl rfl 38 (by decide) (hts _ fl_X12_82) (fun _ h9 => h9) rfl dX12_point_42 ?_
            refine lv_iload hx hb dX12_point_45 (lv_at hl 4 rfl) ?_
            have tz_50 := g5_clamp n3
            have t_50 := i_42 (n3.toNatClampNeg) (by omega)
            refine va_iald hx hb hK hP 2 0 rfl rfl (i := n3) (vp_in_iff.mpr ⟨by omega, by omega⟩) dX12_point_47 ?_
            refine lv_goto (tgt := 52) hx hb dX12_point_48 (by decide) ?_
            have hP := hP.sub (ws' := []) [] rfl
            have hD := hD.sub (ws' := []) [] (by decide) rfl
            exact W.iret (v := (z45 n3.toNatClampNeg)) hx hb hr (fun t ht hW => ⟨⟨(z45 n3.toNatClampNeg), [], rfl, Or.inr (Or.inr (Or.inr (Or.inr (Or.inr (Or.inr (Or.inr (Or.inr (Or.inl (⟨z43, z44, z45, i_7, i_8, i_9, i_14, i_39, i_40, i_41, i_42, i_47, (by omega), rfl, rfl⟩))))))))), by rw [ht]; exact hP, hD⟩, hS.F ht⟩) hS.2.2 dX12_point_52
      ·
        have e_14 : n1 = 3 := g5_toc (by decide) i_14
        subst e_14
        have hPc := hP.sub (ws' := [(a0, .inr (12, [.int 0, .int 0, .ref a1, .ref a2, .ref a3, .ref a4, .int 0, .ref a5, .int 0, .int 0, .int 0, .int 0, .long 0, .int (-1), .int 0, .int 0, .ref a6, .int 0, .ref a7, .ref a8, .int 0, .ref a9, .ref a10, .int 0, .int 0, .ref a11, .ref a12, .int 0, .ref a13, .ref a14, .int 0, .long 0, .long 0, .int 0, .int 0, .int 0, .int 0, .int 0, .ref a15, .int 0, .int 0, .ref a16, .int 0, .ref a17, .ref a18, .ref a19, .int 0, .ref a20, .ref a21, .long 0, .ref a22, .int 0])), (a2, .inl (G.2 0, 5740, .inl (upd (upd (upd (fun _ => 0) 3 (-1)) 4 1000) 6 (-1)))), (a15, .inl (G.2 0, 200, .inl (fun _ => 0)))]) [0, 1, 2] rfl
        have hDc := hD.sub (ws' := [(a0, .inr (12, [.int 0, .int 0, .ref a1, .ref a2, .ref a3, .ref a4, .int 0, .ref a5, .int 0, .int 0, .int 0, .int 0, .long 0, .int (-1), .int 0, .int 0, .ref a6, .int 0, .ref a7, .ref a8, .int 0, .ref a9, .ref a10, .int 0, .int 0, .ref a11, .ref a12, .int 0, .ref a13, .ref a14, .int 0, .long 0, .long 0, .int 0, .int 0, .int 0, .int 0, .int 0, .ref a15, .int 0, .int 0, .ref a16, .int 0, .ref a17, .ref a18, .ref a19, .int 0, .ref a20, .ref a21, .long 0, .ref a22, .int 0])), (a2, .inl (G.2 0, 5740, .inl (upd (upd (upd (fun _ => 0) 3 (-1)) 4 1000) 6 (-1)))), (a15, .inl (G.2 0, 200, .inl (fun _ => 0)))]) [0, 1, 2] (by decide) rfl
        have hFc := va_free (wc := [(a0, .inr (12, [.int 0, .int 0, .ref a1, .ref a2, .ref a3, .ref a4, .int 0, .ref a5, .int 0, .int 0, .int 0, .int 0, .long 0, .int (-1), .int 0, .int 0, .ref a6, .int 0, .ref a7, .ref a8, .int 0, .ref a9, .ref a10, .int 0, .int 0, .ref a11, .ref a12, .int 0, .ref a13, .ref a14, .int 0, .long 0, .long 0, .int 0, .int 0, .int 0, .int 0, .int 0, .ref a15, .int 0, .int 0, .ref a16, .int 0, .ref a17, .ref a18, .ref a19, .int 0, .ref a20, .ref a21, .long 0, .ref a22, .int 0])), (a2, .inl (G.2 0, 5740, .inl (upd (upd (upd (fun _ => 0) 3 (-1)) 4 1000) 6 (-1)))), (a15, .inl (G.2 0, 200, .inl (fun _ => 0)))]) hD hS hA [0, 1, 2] rfl
        refine va_callv (va_runV (As := [.int n0, .int 3, .int n2, .int 0]) (rest := []) ⟨hx, hb, hml, hown, hts⟩ (k_go3 l G a0 a2 a15 a1 a3 a4 a5 a6 a7 a8 a9 a10 a11 a12 a13 a14 a16 a17 a18 a19 a20 a21 a22 H.size n0 n2 0 0 0 0 0 0 0 0 (fun _ => 0) ⟨by omega, by omega⟩ ⟨by omega, by omega⟩) (cwV 4 hts gV_X12_401 rfl rfl rfl hv_X12_go ⟨Nat.le_of_ble_eq_true rfl, Nat.le_of_ble_eq_true rfl⟩) (g5_preV hPc hK hDc hN hT hS hFc (ci := 12) (q0 := 0) rfl rfl) rfl rfl hl.1 rfl (lv_room (Nat.le_of_ble_eq_true rfl)) dX12_point_21 ⟨Nat.le_of_ble_eq_true rfl, Nat.le_of_ble_eq_true rfl⟩) hS (fun q _ h => hFc q h) hFc (fun u t H1 locs ht hvm hw hB hz1 hk1 hS => ?_)
        obtain ⟨hP1, hD1⟩ := hB
        rw [ht] at hP1
        obtain ⟨z55, z56, z57, i_51, i_52, i_53, i_54, rfl⟩ := hw
        have i_51 : z55.toInt = n0.toInt % 8 := i_51
        have i_52 : 0 ≤ z55.toInt ∧ z55.toInt ≤ 7 := i_52
        have i_53 : 0 ≤ z56.toInt ∧ z56.toInt ≤ 63 := i_53
        have i_54 : ∀ j : Nat, (j : Int) < z55.toInt → (z57 j).toInt = n2.toInt * 64 + (n0.toInt - ((j : Int) + 1)) := i_54
        obtain ⟨hP, hD⟩ := va_join (wr := []) (w1 := [(a0, .inr (12, [.int 0, .int 0, .ref a1, .ref a2, .ref a3, .ref a4, .int 0, .ref a5, .int 0, .int 0, .int 0, .int 0, .long 0, .int (-1), .int 0, .int 0, .ref a6, .int 0, .ref a7, .ref a8, .int 0, .ref a9, .ref a10, .int 0, .int 0, .ref a11, .ref a12, .int 0, .ref a13, .ref a14, .int 0, .long 0, .long 0, .int z56, .int n2, .int 3, .int 1000000, .int z55, .ref a15, .int 0, .int (-1), .ref a16, .int 0, .ref a17, .ref a18, .ref a19, .int 0, .ref a20, .ref a21, .long 0, .ref a22, .int 0])), (a2, .inl (G.2 0, 5740, .inl (upd (upd (upd (fun _ => 0) 3 (-1)) 4 1000) 6 (-1)))), (a15, .inl (G.2 0, 200, .inl z57))]) hP hD [0, 1, 2] [] rfl rfl (by decide) (by decide) hk1 hFc hP1 hD1
        generalize H1 = H at hP hS ⊢
        have hP : va_P G.1 vwCl [(a0, .inr (12, [.int 0, .int 0, .ref a1, .ref a2, .ref a3, .ref a4, .int 0, .ref a5, .int 0, .int 0, .int 0, .int 0, .long 0, .int (-1), .int 0, .int 0, .ref a6, .int 0, .ref a7, .ref a8, .int 0, .ref a9, .ref a10, .int 0, .int 0, .ref a11, .ref a12, .int 0, .ref a13, .ref a14, .int 0, .long 0, .long 0, .int z56, .int n2, .int 3, .int 1000000, .int z55, .ref a15, .int 0, .int (-1), .ref a16, .int 0, .ref a17, .ref a18, .ref a19, .int 0, .ref a20, .ref a21, .long 0, .ref a22, .int 0])), (a2, .inl (G.2 0, 5740, .inl (upd (upd (upd (fun _ => 0) 3 (-1)) 4 1000) 6 (-1)))), (a15, .inl (G.2 0, 200, .inl z57))] H := hP
        have hD : va_D A [(a0, .inr (12, [.int 0, .int 0, .ref a1, .ref a2, .ref a3, .ref a4, .int 0, .ref a5, .int 0, .int 0, .int 0, .int 0, .long 0, .int (-1), .int 0, .int 0, .ref a6, .int 0, .ref a7, .ref a8, .int 0, .ref a9, .ref a10, .int 0, .int 0, .ref a11, .ref a12, .int 0, .ref a13, .ref a14, .int 0, .long 0, .long 0, .int z56, .int n2, .int 3, .int 1000000, .int z55, .ref a15, .int 0, .int (-1), .ref a16, .int 0, .ref a17, .ref a18, .ref a19, .int 0, .ref a20, .ref a21, .long 0, .ref a22, .int 0])), (a2, .inl (G.2 0, 5740, .inl (upd (upd (upd (fun _ => 0) 3 (-1)) 4 1000) 6 (-1)))), (a15, .inl (G.2 0, 200, .inl z57))] := hD
        refine lv_iload hx hb dX12_point_24 (lv_at hl 4 rfl) ?_
        refine lv_i2l (v := n3.toInt64) hx hb dX12_point_26 rfl ?_
        refine lv_lconst (v := 0) hx hb dX12_point_27 (by decide) ?_
        refine lv_aload_n hx hb dX12_point_28 rfl (lv_at hl 0 rfl) ?_
        refine va_get (D := G.1) (ci := 12) (v := .int z55) (C := RX12) (T := TX12) (N := 52) hx hb hts inG_X12 hown hK hP 0 rfl rfl 37 (by decide) (hts _ fl_X12_358) (fun _ h9 => h9) rfl dX12_point_29 ?_
        refine lv_i2l (v := z55.toInt64) hx hb dX12_point_32 rfl ?_
        refine lv_lconst (v := 1) hx hb dX12_point_33 (by decide) ?_
        refine lv_lsub hx hb dX12_point_34 ?_
        have hPc := hP.sub (ws' := []) [] rfl
        have hDc := hD.sub (ws' := []) [] (by decide) rfl
        have hFc := va_free (wc := []) hD hS hA [] rfl
        refine va_calli (va_runS (As := [.long n3.toInt64, .long 0, .long (z55.toInt64 - 1)]) (rest := []) ⟨hx, hb, hml, hown, hts⟩ (k_in_pts l G H.size n3 z55 ⟨by omega, by omega⟩) (va_cwS 3 hts gS_X12_121 rfl rfl rfl hs_X12_in ⟨Nat.le_of_ble_eq_true rfl, Nat.le_of_ble_eq_true rfl⟩) (g5_preS hPc hK hDc hN hT hS hFc) rfl rfl hl.1 rfl (lv_room (Nat.le_of_ble_eq_true rfl)) dX12_point_35 ⟨Nat.le_of_ble_eq_true rfl, Nat.le_of_ble_eq_true rfl⟩) hS (fun q _ h => hFc q h) hFc (fun r u t H1 locs ht hvm hw hB hz1 hk1 hS => ?_)
        obtain ⟨hP1, hD1⟩ := hB
        rw [ht] at hP1
        rcases hw with ⟨i_58, rfl, rfl⟩ | ⟨i_59, rfl, rfl⟩
        ·
          have i_58 : n3.toInt < 0 ∨ z55.toInt ≤ n3.toInt := i_58
          have hP := g5_same hP hk1
          generalize H1 = H at hP hS ⊢
          refine lv_if_eq (tgt := 51) hx hb dX12_point_38 (by decide) (fun c_60 => ?_) (fun c_60 => ?_)
          ·
            refine lv_iconst (v := (-1)) hx hb dX12_point_51 (by decide) ?_
            have hP := hP.sub (ws' := []) [] rfl
            have hD := hD.sub (ws' := []) [] (by decide) rfl
            exact W.iret (v := (-1)) hx hb hr (fun t ht hW => ⟨⟨(-1), [], rfl, Or.inr (Or.inr (Or.inr (Or.inr (Or.inr (Or.inr (Or.inr (Or.inr (Or.inr (Or.inl (⟨z55, z56, z57, i_7, i_8, i_9, i_14, i_51, i_52, i_53, i_54, i_58, rfl, rfl⟩)))))))))), by rw [ht]; exact hP, hD⟩, hS.F ht⟩) hS.2.2 dX12_point_52
          ·
            exact absurd c_60 (by decide)
        ·
          have i_59 : 0 ≤ n3.toInt ∧ n3.toInt < z55.toInt := i_59
          have hP := g5_same hP hk1
          generalize H1 = H at hP hS ⊢
          refine lv_if_eq (tgt := 51) hx hb dX12_point_38 (by decide) (fun c_61 => ?_) (fun c_61 => ?_)
          ·
            exact absurd c_61 (by decide)
          ·
            refine lv_aload_n hx hb dX12_point_41 rfl (lv_at hl 0 rfl) ?_
            refine va_get (D := G.1) (ci := 12) (v := .ref a15) (C := RX12) (T := TX12) (N := 52) hx hb hts inG_X12 hown hK hP 0 rfl rfl 38 (by decide) (hts _ fl_X12_82) (fun _ h9 => h9) rfl dX12_point_42 ?_
            refine lv_iload hx hb dX12_point_45 (lv_at hl 4 rfl) ?_
            have tz_62 := g5_clamp n3
            have t_62 := i_54 (n3.toNatClampNeg) (by omega)
            refine va_iald hx hb hK hP 2 0 rfl rfl (i := n3) (vp_in_iff.mpr ⟨by omega, by omega⟩) dX12_point_47 ?_
            refine lv_goto (tgt := 52) hx hb dX12_point_48 (by decide) ?_
            have hP := hP.sub (ws' := []) [] rfl
            have hD := hD.sub (ws' := []) [] (by decide) rfl
            exact W.iret (v := (z57 n3.toNatClampNeg)) hx hb hr (fun t ht hW => ⟨⟨(z57 n3.toNatClampNeg), [], rfl, Or.inr (Or.inr (Or.inr (Or.inr (Or.inr (Or.inr (Or.inr (Or.inr (Or.inr (Or.inr (⟨z55, z56, z57, i_7, i_8, i_9, i_14, i_51, i_52, i_53, i_54, i_59, (by omega), rfl, rfl⟩)))))))))), by rw [ht]; exact hP, hD⟩, hS.F ht⟩) hS.2.2 dX12_point_52
    ·
      exact absurd c_13 (by decide)
theorem dX12_seenFrom_0 : decode cX12_seenFrom 0 = .ok (.iconst 0, 1) := by decide +kernel
theorem dX12_seenFrom_1 : decode cX12_seenFrom 1 = .ok (.istore_n 3, 1) := by decide +kernel
theorem dX12_seenFrom_2 : decode cX12_seenFrom 2 = .ok (.iconst 0, 1) := by decide +kernel
theorem dX12_seenFrom_3 : decode cX12_seenFrom 3 = .ok (.istore 4, 2) := by decide +kernel
theorem dX12_seenFrom_5 : decode cX12_seenFrom 5 = .ok (.iload 4, 2) := by decide +kernel
theorem dX12_seenFrom_7 : decode cX12_seenFrom 7 = .ok (.iconst 4, 1) := by decide +kernel
theorem dX12_seenFrom_8 : decode cX12_seenFrom 8 = .ok (.if_icmp .ge 39, 3) := by decide +kernel
theorem dX12_seenFrom_11 : decode cX12_seenFrom 11 = .ok (.aload_n 0, 1) := by decide +kernel
theorem dX12_seenFrom_12 : decode cX12_seenFrom 12 = .ok (.iload_n 1, 1) := by decide +kernel
theorem dX12_seenFrom_13 : decode cX12_seenFrom 13 = .ok (.iload 4, 2) := by decide +kernel
theorem dX12_seenFrom_15 : decode cX12_seenFrom 15 = .ok (.iload_n 2, 1) := by decide +kernel
theorem dX12_seenFrom_16 : decode cX12_seenFrom 16 = .ok (.iconst 0, 1) := by decide +kernel
theorem dX12_seenFrom_17 : decode cX12_seenFrom 17 = .ok (.invokevirtual 401, 3) := by decide +kernel
theorem dX12_seenFrom_20 : decode cX12_seenFrom 20 = .ok (.iload_n 3, 1) := by decide +kernel
theorem dX12_seenFrom_21 : decode cX12_seenFrom 21 = .ok (.aload_n 0, 1) := by decide +kernel
theorem dX12_seenFrom_22 : decode cX12_seenFrom 22 = .ok (.getfield 371, 3) := by decide +kernel
theorem dX12_seenFrom_25 : decode cX12_seenFrom 25 = .ok (.iconst (-1), 1) := by decide +kernel
theorem dX12_seenFrom_26 : decode cX12_seenFrom 26 = .ok (.if_icmp .ne 7, 3) := by decide +kernel
theorem dX12_seenFrom_29 : decode cX12_seenFrom 29 = .ok (.iconst 0, 1) := by decide +kernel
theorem dX12_seenFrom_30 : decode cX12_seenFrom 30 = .ok (.goto 9, 3) := by decide +kernel
theorem dX12_seenFrom_33 : decode cX12_seenFrom 33 = .ok (.iconst 1, 1) := by decide +kernel
theorem dX12_seenFrom_34 : decode cX12_seenFrom 34 = .ok (.aload_n 0, 1) := by decide +kernel
theorem dX12_seenFrom_35 : decode cX12_seenFrom 35 = .ok (.getfield 371, 3) := by decide +kernel
theorem dX12_seenFrom_38 : decode cX12_seenFrom 38 = .ok (.ishl, 1) := by decide +kernel
theorem dX12_seenFrom_39 : decode cX12_seenFrom 39 = .ok (.ior, 1) := by decide +kernel
theorem dX12_seenFrom_40 : decode cX12_seenFrom 40 = .ok (.istore_n 3, 1) := by decide +kernel
theorem dX12_seenFrom_41 : decode cX12_seenFrom 41 = .ok (.iinc 4 1, 3) := by decide +kernel
theorem dX12_seenFrom_44 : decode cX12_seenFrom 44 = .ok (.goto (-39), 3) := by decide +kernel
theorem dX12_seenFrom_47 : decode cX12_seenFrom 47 = .ok (.iload_n 3, 1) := by decide +kernel
theorem dX12_seenFrom_48 : decode cX12_seenFrom 48 = .ok (.ireturn, 1) := by decide +kernel
set_option maxHeartbeats 4000000 in
set_option maxRecDepth 100000 in
theorem kX12_seenFrom (l : Launch) (G : g5_G) (a0 a1 a2 a3 a4 a5 a6 a7 a8 a9 a10 a11 a12 a13 a14 a15 a16 a17 a18 a19 a20 a21 a22 : Nat) (sz : Nat) (n0 : Int32) (n1 : Int32) (h_n0 : 0 ≤ n0.toInt ∧ n0.toInt ≤ 63) (h_n1 : 0 ≤ n1.toInt ∧ n1.toInt ≤ 23) : Met l yX12_seenFrom (wsG yX12_seenFrom cX12_seenFrom 5 (some .int)) ({ frames := 2, cells := 0, slots := 0, locals := 48 }) (va_Pc [.ref a0, .int n0, .int n1] (g5_P G [(a0, .inr (12, [.int 0, .int 0, .ref a1, .ref a2, .ref a3, .ref a4, .int 0, .ref a5, .int 0, .int 0, .int 0, .int 0, .long 0, .int (-1), .int 0, .int 0, .ref a6, .int 0, .ref a7, .ref a8, .int 0, .ref a9, .ref a10, .int 0, .int 0, .ref a11, .ref a12, .int 0, .ref a13, .ref a14, .int 0, .long 0, .long 0, .int 0, .int 0, .int 0, .int 0, .int 0, .ref a15, .int 0, .int 0, .ref a16, .int 0, .ref a17, .ref a18, .ref a19, .int 0, .ref a20, .ref a21, .long 0, .ref a22, .int 0])), (a2, .inl (G.2 0, 5740, .inl (upd (upd (upd (fun _ => 0) 3 (-1)) 4 1000) 6 (-1)))), (a15, .inl (G.2 0, 200, .inl (fun _ => 0)))] sz)) (va_Qi (fun (r : Int32) (u : va_W) => (∃ (z6 : Int32) (z7 : Int32) (z8 : Nat → Int32) (z15 : Int32) (z16 : Int32) (z17 : Nat → Int32) (z24 : Int32) (z25 : Int32) (z26 : Nat → Int32) (z33 : Int32) (z34 : Int32) (z35 : Nat → Int32), (z6.toInt = n0.toInt / 8) ∧ (0 ≤ z6.toInt ∧ z6.toInt ≤ 7) ∧ (0 ≤ z7.toInt ∧ z7.toInt ≤ 63) ∧ (∀ j : Nat, (j : Int) < z6.toInt → (z8 j).toInt = n1.toInt * 64 + (n0.toInt - 8 * ((j : Int) + 1))) ∧ (z15.toInt = 7 - n0.toInt % 8) ∧ (0 ≤ z15.toInt ∧ z15.toInt ≤ 7) ∧ (0 ≤ z16.toInt ∧ z16.toInt ≤ 63) ∧ (∀ j : Nat, (j : Int) < z15.toInt → (z17 j).toInt = n1.toInt * 64 + (n0.toInt + ((j : Int) + 1))) ∧ (z24.toInt = 7 - n0.toInt / 8) ∧ (0 ≤ z24.toInt ∧ z24.toInt ≤ 7) ∧ (0 ≤ z25.toInt ∧ z25.toInt ≤ 63) ∧ (∀ j : Nat, (j : Int) < z24.toInt → (z26 j).toInt = n1.toInt * 64 + (n0.toInt + 8 * ((j : Int) + 1))) ∧ (z33.toInt = n0.toInt % 8) ∧ (0 ≤ z33.toInt ∧ z33.toInt ≤ 7) ∧ (0 ≤ z34.toInt ∧ z34.toInt ≤ 63) ∧ (∀ j : Nat, (j : Int) < z33.toInt → (z35 j).toInt = n1.toInt * 64 + (n0.toInt - ((j : Int) + 1))) ∧ (r = 0) ∧ (u = [(a0, .inr (12, [.int 0, .int 0, .ref a1, .ref a2, .ref a3, .ref a4, .int 0, .ref a5, .int 0, .int 0, .int 0, .int 0, .long 0, .int (-1), .int 0, .int 0, .ref a6, .int 0, .ref a7, .ref a8, .int 0, .ref a9, .ref a10, .int 0, .int 0, .ref a11, .ref a12, .int 0, .ref a13, .ref a14, .int 0, .long 0, .long 0, .int z34, .int n1, .int 3, .int 1000000, .int z33, .ref a15, .int 0, .int (-1), .ref a16, .int 0, .ref a17, .ref a18, .ref a19, .int 0, .ref a20, .ref a21, .long 0, .ref a22, .int 0])), (a2, .inl (G.2 0, 5740, .inl (upd (upd (upd (fun _ => 0) 3 (-1)) 4 1000) 6 (-1)))), (a15, .inl (G.2 0, 200, .inl z35))]))) (g5_B G (va_A [(a0, .inr (12, [.int 0, .int 0, .ref a1, .ref a2, .ref a3, .ref a4, .int 0, .ref a5, .int 0, .int 0, .int 0, .int 0, .long 0, .int (-1), .int 0, .int 0, .ref a6, .int 0, .ref a7, .ref a8, .int 0, .ref a9, .ref a10, .int 0, .int 0, .ref a11, .ref a12, .int 0, .ref a13, .ref a14, .int 0, .long 0, .long 0, .int 0, .int 0, .int 0, .int 0, .int 0, .ref a15, .int 0, .int 0, .ref a16, .int 0, .ref a17, .ref a18, .ref a19, .int 0, .ref a20, .ref a21, .long 0, .ref a22, .int 0])), (a2, .inl (G.2 0, 5740, .inl (upd (upd (upd (fun _ => 0) 3 (-1)) 4 1000) 6 (-1)))), (a15, .inl (G.2 0, 200, .inl (fun _ => 0)))] sz)) (va_A [(a0, .inr (12, [.int 0, .int 0, .ref a1, .ref a2, .ref a3, .ref a4, .int 0, .ref a5, .int 0, .int 0, .int 0, .int 0, .long 0, .int (-1), .int 0, .int 0, .ref a6, .int 0, .ref a7, .ref a8, .int 0, .ref a9, .ref a10, .int 0, .int 0, .ref a11, .ref a12, .int 0, .ref a13, .ref a14, .int 0, .long 0, .long 0, .int 0, .int 0, .int 0, .int 0, .int 0, .ref a15, .int 0, .int 0, .ref a16, .int 0, .ref a17, .ref a18, .ref a19, .int 0, .ref a20, .ref a21, .long 0, .ref a22, .int 0])), (a2, .inl (G.2 0, 5740, .inl (upd (upd (upd (fun _ => 0) 3 (-1)) 4 1000) 6 (-1)))), (a15, .inl (G.2 0, 200, .inl (fun _ => 0)))] sz)) 0 0 (va_A [(a0, .inr (12, [.int 0, .int 0, .ref a1, .ref a2, .ref a3, .ref a4, .int 0, .ref a5, .int 0, .int 0, .int 0, .int 0, .long 0, .int (-1), .int 0, .int 0, .ref a6, .int 0, .ref a7, .ref a8, .int 0, .ref a9, .ref a10, .int 0, .int 0, .ref a11, .ref a12, .int 0, .ref a13, .ref a14, .int 0, .long 0, .long 0, .int 0, .int 0, .int 0, .int 0, .int 0, .ref a15, .int 0, .int 0, .ref a16, .int 0, .ref a17, .ref a18, .ref a19, .int 0, .ref a20, .ref a21, .long 0, .ref a22, .int 0])), (a2, .inl (G.2 0, 5740, .inl (upd (upd (upd (fun _ => 0) 3 (-1)) 4 1000) 6 (-1)))), (a15, .inl (G.2 0, 200, .inl (fun _ => 0)))] sz) := by
  refine Met.ofW (cc := cX12_seenFrom) (maxL := 5) (ret := (some .int)) (by decide) rfl ?_
  intro p e s m args below meth c s₁ B hml hv
  obtain ⟨rfl, hsz, hP, hK, hD0, hN, hT⟩ := hv
  have hx := B.exec
  have hb := B.bytes
  have hr := B.returns
  have hts : ∀ w ∈ tblG, w.before _ s = true := fun w h => atoms_spec (ws := (wsG yX12_seenFrom cX12_seenFrom 5 (some .int))) B.pre w (List.mem_cons_of_mem _ h)
  have hown : s.vm.findClass RX12 = some m.cls := findClass_of_methodNamed B.named
  have hlocks := B.notSynchronized
  subst hsz
  have hD := hD0.self (sz := s.heap.size)
  generalize hAe : va_A [(a0, .inr (12, [.int 0, .int 0, .ref a1, .ref a2, .ref a3, .ref a4, .int 0, .ref a5, .int 0, .int 0, .int 0, .int 0, .long 0, .int (-1), .int 0, .int 0, .ref a6, .int 0, .ref a7, .ref a8, .int 0, .ref a9, .ref a10, .int 0, .int 0, .ref a11, .ref a12, .int 0, .ref a13, .ref a14, .int 0, .long 0, .long 0, .int 0, .int 0, .int 0, .int 0, .int 0, .ref a15, .int 0, .int 0, .ref a16, .int 0, .ref a17, .ref a18, .ref a19, .int 0, .ref a20, .ref a21, .long 0, .ref a22, .int 0])), (a2, .inl (G.2 0, 5740, .inl (upd (upd (upd (fun _ => 0) 3 (-1)) 4 1000) 6 (-1)))), (a15, .inl (G.2 0, 200, .inl (fun _ => 0)))] s.heap.size = A at hD hT ⊢
  have hA : ∀ q : Nat, s.heap.size ≤ q → A q := fun q h => by rw [← hAe]; exact Or.inr h
  have hS : va_S A s.heap s.heap [] := va_S.rf
  have hP : va_P G.1 vwCl [(a0, .inr (12, [.int 0, .int 0, .ref a1, .ref a2, .ref a3, .ref a4, .int 0, .ref a5, .int 0, .int 0, .int 0, .int 0, .long 0, .int (-1), .int 0, .int 0, .ref a6, .int 0, .ref a7, .ref a8, .int 0, .ref a9, .ref a10, .int 0, .int 0, .ref a11, .ref a12, .int 0, .ref a13, .ref a14, .int 0, .long 0, .long 0, .int 0, .int 0, .int 0, .int 0, .int 0, .ref a15, .int 0, .int 0, .ref a16, .int 0, .ref a17, .ref a18, .ref a19, .int 0, .ref a20, .ref a21, .long 0, .ref a22, .int 0])), (a2, .inl (G.2 0, 5740, .inl (upd (upd (upd (fun _ => 0) 3 (-1)) 4 1000) 6 (-1)))), (a15, .inl (G.2 0, 200, .inl (fun _ => 0)))] s.heap := hP
  have hl := lv_entry ([.ref a0, .int n0, .int n1]) (n := 5) (Nat.le_of_ble_eq_true rfl)
  rw [lg_entry_eq]
  generalize (lg_sl ([.ref a0, .int n0, .int n1]) ++ List.replicate (5 - (lg_sl ([.ref a0, .int n0, .int n1])).length) Slot.unset).toArray = ls at hl ⊢
  have hl : lv_has ls 5 [(0, .ref a0), (1, .int n0), (2, .int n1)] := hl
  refine lv_iconst (v := 0) hx hb dX12_seenFrom_0 (by decide) ?_
  refine lv_istore_n (lv' := [(3, .int 0), (0, .ref a0), (1, .int n0), (2, .int n1)]) hx hb dX12_seenFrom_1 rfl hl (by decide) rfl (fun ls hl => ?_)
  refine lv_iconst (v := 0) hx hb dX12_seenFrom_2 (by decide) ?_
  refine lv_istore (lv' := [(4, .int 0), (3, .int 0), (0, .ref a0), (1, .int n0), (2, .int n1)]) hx hb dX12_seenFrom_3 hl (by decide) rfl (fun ls hl => ?_)
  refine lv_iload hx hb dX12_seenFrom_5 (lv_at hl 0 rfl) ?_
  refine lv_iconst (v := 4) hx hb dX12_seenFrom_7 (by decide) ?_
  refine lv_icmp_ge (tgt := 47) hx hb dX12_seenFrom_8 (by decide) (fun c_1 => ?_) (fun c_1 => ?_)
  ·
    exact absurd c_1 (by decide)
  ·
    refine lv_aload_n hx hb dX12_seenFrom_11 rfl (lv_at hl 2 rfl) ?_
    refine lv_iload_n hx hb dX12_seenFrom_12 rfl (lv_at hl 3 rfl) ?_
    refine lv_iload hx hb dX12_seenFrom_13 (lv_at hl 0 rfl) ?_
    refine lv_iload_n hx hb dX12_seenFrom_15 rfl (lv_at hl 4 rfl) ?_
    refine lv_iconst (v := 0) hx hb dX12_seenFrom_16 (by decide) ?_
    have hPc := hP.sub (ws' := [(a0, .inr (12, [.int 0, .int 0, .ref a1, .ref a2, .ref a3, .ref a4, .int 0, .ref a5, .int 0, .int 0, .int 0, .int 0, .long 0, .int (-1), .int 0, .int 0, .ref a6, .int 0, .ref a7, .ref a8, .int 0, .ref a9, .ref a10, .int 0, .int 0, .ref a11, .ref a12, .int 0, .ref a13, .ref a14, .int 0, .long 0, .long 0, .int 0, .int 0, .int 0, .int 0, .int 0, .ref a15, .int 0, .int 0, .ref a16, .int 0, .ref a17, .ref a18, .ref a19, .int 0, .ref a20, .ref a21, .long 0, .ref a22, .int 0])), (a2, .inl (G.2 0, 5740, .inl (upd (upd (upd (fun _ => 0) 3 (-1)) 4 1000) 6 (-1)))), (a15, .inl (G.2 0, 200, .inl (fun _ => 0)))]) [0, 1, 2] rfl
    have hDc := hD.sub (ws' := [(a0, .inr (12, [.int 0, .int 0, .ref a1, .ref a2, .ref a3, .ref a4, .int 0, .ref a5, .int 0, .int 0, .int 0, .int 0, .long 0, .int (-1), .int 0, .int 0, .ref a6, .int 0, .ref a7, .ref a8, .int 0, .ref a9, .ref a10, .int 0, .int 0, .ref a11, .ref a12, .int 0, .ref a13, .ref a14, .int 0, .long 0, .long 0, .int 0, .int 0, .int 0, .int 0, .int 0, .ref a15, .int 0, .int 0, .ref a16, .int 0, .ref a17, .ref a18, .ref a19, .int 0, .ref a20, .ref a21, .long 0, .ref a22, .int 0])), (a2, .inl (G.2 0, 5740, .inl (upd (upd (upd (fun _ => 0) 3 (-1)) 4 1000) 6 (-1)))), (a15, .inl (G.2 0, 200, .inl (fun _ => 0)))]) [0, 1, 2] (by decide) rfl
    have hFc := va_free (wc := [(a0, .inr (12, [.int 0, .int 0, .ref a1, .ref a2, .ref a3, .ref a4, .int 0, .ref a5, .int 0, .int 0, .int 0, .int 0, .long 0, .int (-1), .int 0, .int 0, .ref a6, .int 0, .ref a7, .ref a8, .int 0, .ref a9, .ref a10, .int 0, .int 0, .ref a11, .ref a12, .int 0, .ref a13, .ref a14, .int 0, .long 0, .long 0, .int 0, .int 0, .int 0, .int 0, .int 0, .ref a15, .int 0, .int 0, .ref a16, .int 0, .ref a17, .ref a18, .ref a19, .int 0, .ref a20, .ref a21, .long 0, .ref a22, .int 0])), (a2, .inl (G.2 0, 5740, .inl (upd (upd (upd (fun _ => 0) 3 (-1)) 4 1000) 6 (-1)))), (a15, .inl (G.2 0, 200, .inl (fun _ => 0)))]) hD hS hA [0, 1, 2] rfl
    refine va_callv (va_runV (As := [.int n0, .int 0, .int n1, .int 0]) (rest := []) ⟨hx, hb, hml, hown, hts⟩ (k_go0 l G a0 a2 a15 a1 a3 a4 a5 a6 a7 a8 a9 a10 a11 a12 a13 a14 a16 a17 a18 a19 a20 a21 a22 s.heap.size n0 n1 0 0 0 0 0 0 0 0 (fun _ => 0) ⟨by omega, by omega⟩ ⟨by omega, by omega⟩) (cwV 4 hts gV_X12_401 rfl rfl rfl hv_X12_go ⟨Nat.le_of_ble_eq_true rfl, Nat.le_of_ble_eq_true rfl⟩) (g5_preV hPc hK hDc hN hT hS hFc (ci := 12) (q0 := 0) rfl rfl) rfl rfl hl.1 rfl (lv_room (Nat.le_of_ble_eq_true rfl)) dX12_seenFrom_17 ⟨Nat.le_of_ble_eq_true rfl, Nat.le_of_ble_eq_true rfl⟩) hS (fun q _ h => hFc q h) hFc (fun u t H1 locs ht hvm hw hB hz1 hk1 hS => ?_)
    obtain ⟨hP1, hD1⟩ := hB
    rw [ht] at hP1
    obtain ⟨z6, z7, z8, i_2, i_3, i_4, i_5, rfl⟩ := hw
    have i_2 : z6.toInt = n0.toInt / 8 := i_2
    have i_3 : 0 ≤ z6.toInt ∧ z6.toInt ≤ 7 := i_3
    have i_4 : 0 ≤ z7.toInt ∧ z7.toInt ≤ 63 := i_4
    have i_5 : ∀ j : Nat, (j : Int) < z6.toInt → (z8 j).toInt = n1.toInt * 64 + (n0.toInt - 8 * ((j : Int) + 1)) := i_5
    obtain ⟨hP, hD⟩ := va_join (wr := []) (w1 := [(a0, .inr (12, [.int 0, .int 0, .ref a1, .ref a2, .ref a3, .ref a4, .int 0, .ref a5, .int 0, .int 0, .int 0, .int 0, .long 0, .int (-1), .int 0, .int 0, .ref a6, .int 0, .ref a7, .ref a8, .int 0, .ref a9, .ref a10, .int 0, .int 0, .ref a11, .ref a12, .int 0, .ref a13, .ref a14, .int 0, .long 0, .long 0, .int z7, .int n1, .int 0, .int 1000000, .int z6, .ref a15, .int 0, .int (-1), .ref a16, .int 0, .ref a17, .ref a18, .ref a19, .int 0, .ref a20, .ref a21, .long 0, .ref a22, .int 0])), (a2, .inl (G.2 0, 5740, .inl (upd (upd (upd (fun _ => 0) 3 (-1)) 4 1000) 6 (-1)))), (a15, .inl (G.2 0, 200, .inl z8))]) hP hD [0, 1, 2] [] rfl rfl (by decide) (by decide) hk1 hFc hP1 hD1
    generalize H1 = H at hP hS ⊢
    have hP : va_P G.1 vwCl [(a0, .inr (12, [.int 0, .int 0, .ref a1, .ref a2, .ref a3, .ref a4, .int 0, .ref a5, .int 0, .int 0, .int 0, .int 0, .long 0, .int (-1), .int 0, .int 0, .ref a6, .int 0, .ref a7, .ref a8, .int 0, .ref a9, .ref a10, .int 0, .int 0, .ref a11, .ref a12, .int 0, .ref a13, .ref a14, .int 0, .long 0, .long 0, .int z7, .int n1, .int 0, .int 1000000, .int z6, .ref a15, .int 0, .int (-1), .ref a16, .int 0, .ref a17, .ref a18, .ref a19, .int 0, .ref a20, .ref a21, .long 0, .ref a22, .int 0])), (a2, .inl (G.2 0, 5740, .inl (upd (upd (upd (fun _ => 0) 3 (-1)) 4 1000) 6 (-1)))), (a15, .inl (G.2 0, 200, .inl z8))] H := hP
    have hD : va_D A [(a0, .inr (12, [.int 0, .int 0, .ref a1, .ref a2, .ref a3, .ref a4, .int 0, .ref a5, .int 0, .int 0, .int 0, .int 0, .long 0, .int (-1), .int 0, .int 0, .ref a6, .int 0, .ref a7, .ref a8, .int 0, .ref a9, .ref a10, .int 0, .int 0, .ref a11, .ref a12, .int 0, .ref a13, .ref a14, .int 0, .long 0, .long 0, .int z7, .int n1, .int 0, .int 1000000, .int z6, .ref a15, .int 0, .int (-1), .ref a16, .int 0, .ref a17, .ref a18, .ref a19, .int 0, .ref a20, .ref a21, .long 0, .ref a22, .int 0])), (a2, .inl (G.2 0, 5740, .inl (upd (upd (upd (fun _ => 0) 3 (-1)) 4 1000) 6 (-1)))), (a15, .inl (G.2 0, 200, .inl z8))] := hD
    refine lv_iload_n hx hb dX12_seenFrom_20 rfl (lv_at hl 1 rfl) ?_
    refine lv_aload_n hx hb dX12_seenFrom_21 rfl (lv_at hl 2 rfl) ?_
    refine va_get (D := G.1) (ci := 12) (v := .int (-1)) (C := RX12) (T := TX12) (N := 52) hx hb hts inG_X12 hown hK hP 0 rfl rfl 40 (by decide) (hts _ fl_X12_371) (fun _ h9 => h9) rfl dX12_seenFrom_22 ?_
    refine lv_iconst (v := (-1)) hx hb dX12_seenFrom_25 (by decide) ?_
    refine lv_icmp_ne (tgt := 33) hx hb dX12_seenFrom_26 (by decide) (fun c_9 => ?_) (fun c_9 => ?_)
    ·
      exact absurd c_9 (by decide)
    ·
      refine lv_iconst (v := 0) hx hb dX12_seenFrom_29 (by decide) ?_
      refine lv_goto (tgt := 39) hx hb dX12_seenFrom_30 (by decide) ?_
      refine lv_ior hx hb dX12_seenFrom_39 ?_
      refine g5_ti (v := 0) (by decide) ?_
      refine lv_istore_n (lv' := [(3, .int 0), (4, .int 0), (0, .ref a0), (1, .int n0), (2, .int n1)]) hx hb dX12_seenFrom_40 rfl hl (by decide) rfl (fun ls hl => ?_)
      refine lv_iinc (v := 1) (lv' := [(4, .int 1), (3, .int 0), (0, .ref a0), (1, .int n0), (2, .int n1)]) hx hb dX12_seenFrom_41 hl (k := 1) rfl (by decide) (by decide) rfl (fun ls hl => ?_)
      refine lv_goto (tgt := 5) hx hb dX12_seenFrom_44 (by decide) ?_
      refine lv_iload hx hb dX12_seenFrom_5 (lv_at hl 0 rfl) ?_
      refine lv_iconst (v := 4) hx hb dX12_seenFrom_7 (by decide) ?_
      refine lv_icmp_ge (tgt := 47) hx hb dX12_seenFrom_8 (by decide) (fun c_10 => ?_) (fun c_10 => ?_)
      ·
        exact absurd c_10 (by decide)
      ·
        refine lv_aload_n hx hb dX12_seenFrom_11 rfl (lv_at hl 2 rfl) ?_
        refine lv_iload_n hx hb dX12_seenFrom_12 rfl (lv_at hl 3 rfl) ?_
        refine lv_iload hx hb dX12_seenFrom_13 (lv_at hl 0 rfl) ?_
        refine lv_iload_n hx hb dX12_seenFrom_15 rfl (lv_at hl 4 rfl) ?_
        refine lv_iconst (v := 0) hx hb dX12_seenFrom_16 (by decide) ?_
        have hPc := hP.sub (ws' := [(a0, .inr (12, [.int 0, .int 0, .ref a1, .ref a2, .ref a3, .ref a4, .int 0, .ref a5, .int 0, .int 0, .int 0, .int 0, .long 0, .int (-1), .int 0, .int 0, .ref a6, .int 0, .ref a7, .ref a8, .int 0, .ref a9, .ref a10, .int 0, .int 0, .ref a11, .ref a12, .int 0, .ref a13, .ref a14, .int 0, .long 0, .long 0, .int z7, .int n1, .int 0, .int 1000000, .int z6, .ref a15, .int 0, .int (-1), .ref a16, .int 0, .ref a17, .ref a18, .ref a19, .int 0, .ref a20, .ref a21, .long 0, .ref a22, .int 0])), (a2, .inl (G.2 0, 5740, .inl (upd (upd (upd (fun _ => 0) 3 (-1)) 4 1000) 6 (-1)))), (a15, .inl (G.2 0, 200, .inl z8))]) [0, 1, 2] rfl
        have hDc := hD.sub (ws' := [(a0, .inr (12, [.int 0, .int 0, .ref a1, .ref a2, .ref a3, .ref a4, .int 0, .ref a5, .int 0, .int 0, .int 0, .int 0, .long 0, .int (-1), .int 0, .int 0, .ref a6, .int 0, .ref a7, .ref a8, .int 0, .ref a9, .ref a10, .int 0, .int 0, .ref a11, .ref a12, .int 0, .ref a13, .ref a14, .int 0, .long 0, .long 0, .int z7, .int n1, .int 0, .int 1000000, .int z6, .ref a15, .int 0, .int (-1), .ref a16, .int 0, .ref a17, .ref a18, .ref a19, .int 0, .ref a20, .ref a21, .long 0, .ref a22, .int 0])), (a2, .inl (G.2 0, 5740, .inl (upd (upd (upd (fun _ => 0) 3 (-1)) 4 1000) 6 (-1)))), (a15, .inl (G.2 0, 200, .inl z8))]) [0, 1, 2] (by decide) rfl
        have hFc := va_free (wc := [(a0, .inr (12, [.int 0, .int 0, .ref a1, .ref a2, .ref a3, .ref a4, .int 0, .ref a5, .int 0, .int 0, .int 0, .int 0, .long 0, .int (-1), .int 0, .int 0, .ref a6, .int 0, .ref a7, .ref a8, .int 0, .ref a9, .ref a10, .int 0, .int 0, .ref a11, .ref a12, .int 0, .ref a13, .ref a14, .int 0, .long 0, .long 0, .int z7, .int n1, .int 0, .int 1000000, .int z6, .ref a15, .int 0, .int (-1), .ref a16, .int 0, .ref a17, .ref a18, .ref a19, .int 0, .ref a20, .ref a21, .long 0, .ref a22, .int 0])), (a2, .inl (G.2 0, 5740, .inl (upd (upd (upd (fun _ => 0) 3 (-1)) 4 1000) 6 (-1)))), (a15, .inl (G.2 0, 200, .inl z8))]) hD hS hA [0, 1, 2] rfl
        refine va_callv (va_runV (As := [.int n0, .int 1, .int n1, .int 0]) (rest := []) ⟨hx, hb, hml, hown, hts⟩ (k_go1 l G a0 a2 a15 a1 a3 a4 a5 a6 a7 a8 a9 a10 a11 a12 a13 a14 a16 a17 a18 a19 a20 a21 a22 H.size n0 n1 0 z7 n1 0 1000000 z6 0 (-1) z8 ⟨by omega, by omega⟩ ⟨by omega, by omega⟩) (cwV 4 hts gV_X12_401 rfl rfl rfl hv_X12_go ⟨Nat.le_of_ble_eq_true rfl, Nat.le_of_ble_eq_true rfl⟩) (g5_preV hPc hK hDc hN hT hS hFc (ci := 12) (q0 := 0) rfl rfl) rfl rfl hl.1 rfl (lv_room (Nat.le_of_ble_eq_true rfl)) dX12_seenFrom_17 ⟨Nat.le_of_ble_eq_true rfl, Nat.le_of_ble_eq_true rfl⟩) hS (fun q _ h => hFc q h) hFc (fun u t H1 locs ht hvm hw hB hz1 hk1 hS => ?_)
        obtain ⟨hP1, hD1⟩ := hB
        rw [ht] at hP1
        obtain ⟨z15, z16, z17, i_11, i_12, i_13, i_14, rfl⟩ := hw
        have i_11 : z15.toInt = 7 - n0.toInt % 8 := i_11
        have i_12 : 0 ≤ z15.toInt ∧ z15.toInt ≤ 7 := i_12
        have i_13 : 0 ≤ z16.toInt ∧ z16.toInt ≤ 63 := i_13
        have i_14 : ∀ j : Nat, (j : Int) < z15.toInt → (z17 j).toInt = n1.toInt * 64 + (n0.toInt + ((j : Int) + 1)) := i_14
        obtain ⟨hP, hD⟩ := va_join (wr := []) (w1 := [(a0, .inr (12, [.int 0, .int 0, .ref a1, .ref a2, .ref a3, .ref a4, .int 0, .ref a5, .int 0, .int 0, .int 0, .int 0, .long 0, .int (-1), .int 0, .int 0, .ref a6, .int 0, .ref a7, .ref a8, .int 0, .ref a9, .ref a10, .int 0, .int 0, .ref a11, .ref a12, .int 0, .ref a13, .ref a14, .int 0, .long 0, .long 0, .int z16, .int n1, .int 1, .int 1000000, .int z15, .ref a15, .int 0, .int (-1), .ref a16, .int 0, .ref a17, .ref a18, .ref a19, .int 0, .ref a20, .ref a21, .long 0, .ref a22, .int 0])), (a2, .inl (G.2 0, 5740, .inl (upd (upd (upd (fun _ => 0) 3 (-1)) 4 1000) 6 (-1)))), (a15, .inl (G.2 0, 200, .inl z17))]) hP hD [0, 1, 2] [] rfl rfl (by decide) (by decide) hk1 hFc hP1 hD1
        generalize H1 = H at hP hS ⊢
        have hP : va_P G.1 vwCl [(a0, .inr (12, [.int 0, .int 0, .ref a1, .ref a2, .ref a3, .ref a4, .int 0, .ref a5, .int 0, .int 0, .int 0, .int 0, .long 0, .int (-1), .int 0, .int 0, .ref a6, .int 0, .ref a7, .ref a8, .int 0, .ref a9, .ref a10, .int 0, .int 0, .ref a11, .ref a12, .int 0, .ref a13, .ref a14, .int 0, .long 0, .long 0, .int z16, .int n1, .int 1, .int 1000000, .int z15, .ref a15, .int 0, .int (-1), .ref a16, .int 0, .ref a17, .ref a18, .ref a19, .int 0, .ref a20, .ref a21, .long 0, .ref a22, .int 0])), (a2, .inl (G.2 0, 5740, .inl (upd (upd (upd (fun _ => 0) 3 (-1)) 4 1000) 6 (-1)))), (a15, .inl (G.2 0, 200, .inl z17))] H := hP
        have hD : va_D A [(a0, .inr (12, [.int 0, .int 0, .ref a1, .ref a2, .ref a3, .ref a4, .int 0, .ref a5, .int 0, .int 0, .int 0, .int 0, .long 0, .int (-1), .int 0, .int 0, .ref a6, .int 0, .ref a7, .ref a8, .int 0, .ref a9, .ref a10, .int 0, .int 0, .ref a11, .ref a12, .int 0, .ref a13, .ref a14, .int 0, .long 0, .long 0, .int z16, .int n1, .int 1, .int 1000000, .int z15, .ref a15, .int 0, .int (-1), .ref a16, .int 0, .ref a17, .ref a18, .ref a19, .int 0, .ref a20, .ref a21, .long 0, .ref a22, .int 0])), (a2, .inl (G.2 0, 5740, .inl (upd (upd (upd (fun _ => 0) 3 (-1)) 4 1000) 6 (-1)))), (a15, .inl (G.2 0, 200, .inl z17))] := hD
        refine lv_iload_n hx hb dX12_seenFrom_20 rfl (lv_at hl 1 rfl) ?_
        refine lv_aload_n hx hb dX12_seenFrom_21 rfl (lv_at hl 2 rfl) ?_
        refine va_get (D := G.1) (ci := 12) (v := .int (-1)) (C := RX12) (T := TX12) (N := 52) hx hb hts inG_X12 hown hK hP 0 rfl rfl 40 (by decide) (hts _ fl_X12_371) (fun _ h9 => h9) rfl dX12_seenFrom_22 ?_
        refine lv_iconst (v := (-1)) hx hb dX12_seenFrom_25 (by decide) ?_
        refine lv_icmp_ne (tgt := 33) hx hb dX12_seenFrom_26 (by decide) (fun c_18 => ?_) (fun c_18 => ?_)
        ·
          exact absurd c_18 (by decide)
        ·
          refine lv_iconst (v := 0) hx hb dX12_seenFrom_29 (by decide) ?_
          refine lv_goto (tgt := 39) hx hb dX12_seenFrom_30 (by decide) ?_
          refine lv_ior hx hb dX12_seenFrom_39 ?_
          refine g5_ti (v := 0) (by decide) ?_
          refine lv_istore_n (lv' := [(3, .int 0), (4, .int 1), (0, .ref a0), (1, .int n0), (2, .int n1)]) hx hb dX12_seenFrom_40 rfl hl (by decide) rfl (fun ls hl => ?_)
          refine lv_iinc (v := 2) (lv' := [(4, .int 2), (3, .int 0), (0, .ref a0), (1, .int n0), (2, .int n1)]) hx hb dX12_seenFrom_41 hl (k := 1) rfl (by decide) (by decide) rfl (fun ls hl => ?_)
          refine lv_goto (tgt := 5) hx hb dX12_seenFrom_44 (by decide) ?_
          refine lv_iload hx hb dX12_seenFrom_5 (lv_at hl 0 rfl) ?_
          refine lv_iconst (v := 4) hx hb dX12_seenFrom_7 (by decide) ?_
          refine lv_icmp_ge (tgt := 47) hx hb dX12_seenFrom_8 (by decide) (fun c_19 => ?_) (fun c_19 => ?_)
          ·
            exact absurd c_19 (by decide)
          ·
            refine lv_aload_n hx hb dX12_seenFrom_11 rfl (lv_at hl 2 rfl) ?_
            refine lv_iload_n hx hb dX12_seenFrom_12 rfl (lv_at hl 3 rfl) ?_
            refine lv_iload hx hb dX12_seenFrom_13 (lv_at hl 0 rfl) ?_
            refine lv_iload_n hx hb dX12_seenFrom_15 rfl (lv_at hl 4 rfl) ?_
            refine lv_iconst (v := 0) hx hb dX12_seenFrom_16 (by decide) ?_
            have hPc := hP.sub (ws' := [(a0, .inr (12, [.int 0, .int 0, .ref a1, .ref a2, .ref a3, .ref a4, .int 0, .ref a5, .int 0, .int 0, .int 0, .int 0, .long 0, .int (-1), .int 0, .int 0, .ref a6, .int 0, .ref a7, .ref a8, .int 0, .ref a9, .ref a10, .int 0, .int 0, .ref a11, .ref a12, .int 0, .ref a13, .ref a14, .int 0, .long 0, .long 0, .int z16, .int n1, .int 1, .int 1000000, .int z15, .ref a15, .int 0, .int (-1), .ref a16, .int 0, .ref a17, .ref a18, .ref a19, .int 0, .ref a20, .ref a21, .long 0, .ref a22, .int 0])), (a2, .inl (G.2 0, 5740, .inl (upd (upd (upd (fun _ => 0) 3 (-1)) 4 1000) 6 (-1)))), (a15, .inl (G.2 0, 200, .inl z17))]) [0, 1, 2] rfl
            have hDc := hD.sub (ws' := [(a0, .inr (12, [.int 0, .int 0, .ref a1, .ref a2, .ref a3, .ref a4, .int 0, .ref a5, .int 0, .int 0, .int 0, .int 0, .long 0, .int (-1), .int 0, .int 0, .ref a6, .int 0, .ref a7, .ref a8, .int 0, .ref a9, .ref a10, .int 0, .int 0, .ref a11, .ref a12, .int 0, .ref a13, .ref a14, .int 0, .long 0, .long 0, .int z16, .int n1, .int 1, .int 1000000, .int z15, .ref a15, .int 0, .int (-1), .ref a16, .int 0, .ref a17, .ref a18, .ref a19, .int 0, .ref a20, .ref a21, .long 0, .ref a22, .int 0])), (a2, .inl (G.2 0, 5740, .inl (upd (upd (upd (fun _ => 0) 3 (-1)) 4 1000) 6 (-1)))), (a15, .inl (G.2 0, 200, .inl z17))]) [0, 1, 2] (by decide) rfl
            have hFc := va_free (wc := [(a0, .inr (12, [.int 0, .int 0, .ref a1, .ref a2, .ref a3, .ref a4, .int 0, .ref a5, .int 0, .int 0, .int 0, .int 0, .long 0, .int (-1), .int 0, .int 0, .ref a6, .int 0, .ref a7, .ref a8, .int 0, .ref a9, .ref a10, .int 0, .int 0, .ref a11, .ref a12, .int 0, .ref a13, .ref a14, .int 0, .long 0, .long 0, .int z16, .int n1, .int 1, .int 1000000, .int z15, .ref a15, .int 0, .int (-1), .ref a16, .int 0, .ref a17, .ref a18, .ref a19, .int 0, .ref a20, .ref a21, .long 0, .ref a22, .int 0])), (a2, .inl (G.2 0, 5740, .inl (upd (upd (upd (fun _ => 0) 3 (-1)) 4 1000) 6 (-1)))), (a15, .inl (G.2 0, 200, .inl z17))]) hD hS hA [0, 1, 2] rfl
            refine va_callv (va_runV (As := [.int n0, .int 2, .int n1, .int 0]) (rest := []) ⟨hx, hb, hml, hown, hts⟩ (k_go2 l G a0 a2 a15 a1 a3 a4 a5 a6 a7 a8 a9 a10 a11 a12 a13 a14 a16 a17 a18 a19 a20 a21 a22 H.size n0 n1 0 z16 n1 1 1000000 z15 0 (-1) z17 ⟨by omega, by omega⟩ ⟨by omega, by omega⟩) (cwV 4 hts gV_X12_401 rfl rfl rfl hv_X12_go ⟨Nat.le_of_ble_eq_true rfl, Nat.le_of_ble_eq_true rfl⟩) (g5_preV hPc hK hDc hN hT hS hFc (ci := 12) (q0 := 0) rfl rfl) rfl rfl hl.1 rfl (lv_room (Nat.le_of_ble_eq_true rfl)) dX12_seenFrom_17 ⟨Nat.le_of_ble_eq_true rfl, Nat.le_of_ble_eq_true rfl⟩) hS (fun q _ h => hFc q h) hFc (fun u t H1 locs ht hvm hw hB hz1 hk1 hS => ?_)
            obtain ⟨hP1, hD1⟩ := hB
            rw [ht] at hP1
            obtain ⟨z24, z25, z26, i_20, i_21, i_22, i_23, rfl⟩ := hw
            have i_20 : z24.toInt = 7 - n0.toInt / 8 := i_20
            have i_21 : 0 ≤ z24.toInt ∧ z24.toInt ≤ 7 := i_21
            have i_22 : 0 ≤ z25.toInt ∧ z25.toInt ≤ 63 := i_22
            have i_23 : ∀ j : Nat, (j : Int) < z24.toInt → (z26 j).toInt = n1.toInt * 64 + (n0.toInt + 8 * ((j : Int) + 1)) := i_23
            obtain ⟨hP, hD⟩ := va_join (wr := []) (w1 := [(a0, .inr (12, [.int 0, .int 0, .ref a1, .ref a2, .ref a3, .ref a4, .int 0, .ref a5, .int 0, .int 0, .int 0, .int 0, .long 0, .int (-1), .int 0, .int 0, .ref a6, .int 0, .ref a7, .ref a8, .int 0, .ref a9, .ref a10, .int 0, .int 0, .ref a11, .ref a12, .int 0, .ref a13, .ref a14, .int 0, .long 0, .long 0, .int z25, .int n1, .int 2, .int 1000000, .int z24, .ref a15, .int 0, .int (-1), .ref a16, .int 0, .ref a17, .ref a18, .ref a19, .int 0, .ref a20, .ref a21, .long 0, .ref a22, .int 0])), (a2, .inl (G.2 0, 5740, .inl (upd (upd (upd (fun _ => 0) 3 (-1)) 4 1000) 6 (-1)))), (a15, .inl (G.2 0, 200, .inl z26))]) hP hD [0, 1, 2] [] rfl rfl (by decide) (by decide) hk1 hFc hP1 hD1
            generalize H1 = H at hP hS ⊢
            have hP : va_P G.1 vwCl [(a0, .inr (12, [.int 0, .int 0, .ref a1, .ref a2, .ref a3, .ref a4, .int 0, .ref a5, .int 0, .int 0, .int 0, .int 0, .long 0, .int (-1), .int 0, .int 0, .ref a6, .int 0, .ref a7, .ref a8, .int 0, .ref a9, .ref a10, .int 0, .int 0, .ref a11, .ref a12, .int 0, .ref a13, .ref a14, .int 0, .long 0, .long 0, .int z25, .int n1, .int 2, .int 1000000, .int z24, .ref a15, .int 0, .int (-1), .ref a16, .int 0, .ref a17, .ref a18, .ref a19, .int 0, .ref a20, .ref a21, .long 0, .ref a22, .int 0])), (a2, .inl (G.2 0, 5740, .inl (upd (upd (upd (fun _ => 0) 3 (-1)) 4 1000) 6 (-1)))), (a15, .inl (G.2 0, 200, .inl z26))] H := hP
            have hD : va_D A [(a0, .inr (12, [.int 0, .int 0, .ref a1, .ref a2, .ref a3, .ref a4, .int 0, .ref a5, .int 0, .int 0, .int 0, .int 0, .long 0, .int (-1), .int 0, .int 0, .ref a6, .int 0, .ref a7, .ref a8, .int 0, .ref a9, .ref a10, .int 0, .int 0, .ref a11, .ref a12, .int 0, .ref a13, .ref a14, .int 0, .long 0, .long 0, .int z25, .int n1, .int 2, .int 1000000, .int z24, .ref a15, .int 0, .int (-1), .ref a16, .int 0, .ref a17, .ref a18, .ref a19, .int 0, .ref a20, .ref a21, .long 0, .ref a22, .int 0])), (a2, .inl (G.2 0, 5740, .inl (upd (upd (upd (fun _ => 0) 3 (-1)) 4 1000) 6 (-1)))), (a15, .inl (G.2 0, 200, .inl z26))] := hD
            refine lv_iload_n hx hb dX12_seenFrom_20 rfl (lv_at hl 1 rfl) ?_
            refine lv_aload_n hx hb dX12_seenFrom_21 rfl (lv_at hl 2 rfl) ?_
            refine va_get (D := G.1) (ci := 12) (v := .int (-1)) (C := RX12) (T := TX12) (N := 52) hx hb hts inG_X12 hown hK hP 0 rfl rfl 40 (by decide) (hts _ fl_X12_371) (fun _ h9 => h9) rfl dX12_seenFrom_22 ?_
            refine lv_iconst (v := (-1)) hx hb dX12_seenFrom_25 (by decide) ?_
            refine lv_icmp_ne (tgt := 33) hx hb dX12_seenFrom_26 (by decide) (fun c_27 => ?_) (fun c_27 => ?_)
            ·
              exact absurd c_27 (by decide)
            ·
              refine lv_iconst (v := 0) hx hb dX12_seenFrom_29 (by decide) ?_
              refine lv_goto (tgt := 39) hx hb dX12_seenFrom_30 (by decide) ?_
              refine lv_ior hx hb dX12_seenFrom_39 ?_
              refine g5_ti (v := 0) (by decide) ?_
              refine lv_istore_n (lv' := [(3, .int 0), (4, .int 2), (0, .ref a0), (1, .int n0), (2, .int n1)]) hx hb dX12_seenFrom_40 rfl hl (by decide) rfl (fun ls hl => ?_)
              refine lv_iinc (v := 3) (lv' := [(4, .int 3), (3, .int 0), (0, .ref a0), (1, .int n0), (2, .int n1)]) hx hb dX12_seenFrom_41 hl (k := 1) rfl (by decide) (by decide) rfl (fun ls hl => ?_)
              refine lv_goto (tgt := 5) hx hb dX12_seenFrom_44 (by decide) ?_
              refine lv_iload hx hb dX12_seenFrom_5 (lv_at hl 0 rfl) ?_
              refine lv_iconst (v := 4) hx hb dX12_seenFrom_7 (by decide) ?_
              refine lv_icmp_ge (tgt := 47) hx hb dX12_seenFrom_8 (by decide) (fun c_28 => ?_) (fun c_28 => ?_)
              ·
                exact absurd c_28 (by decide)
              ·
                refine lv_aload_n hx hb dX12_seenFrom_11 rfl (lv_at hl 2 rfl) ?_
                refine lv_iload_n hx hb dX12_seenFrom_12 rfl (lv_at hl 3 rfl) ?_
                refine lv_iload hx hb dX12_seenFrom_13 (lv_at hl 0 rfl) ?_
                refine lv_iload_n hx hb dX12_seenFrom_15 rfl (lv_at hl 4 rfl) ?_
                refine lv_iconst (v := 0) hx hb dX12_seenFrom_16 (by decide) ?_
                have hPc := hP.sub (ws' := [(a0, .inr (12, [.int 0, .int 0, .ref a1, .ref a2, .ref a3, .ref a4, .int 0, .ref a5, .int 0, .int 0, .int 0, .int 0, .long 0, .int (-1), .int 0, .int 0, .ref a6, .int 0, .ref a7, .ref a8, .int 0, .ref a9, .ref a10, .int 0, .int 0, .ref a11, .ref a12, .int 0, .ref a13, .ref a14, .int 0, .long 0, .long 0, .int z25, .int n1, .int 2, .int 1000000, .int z24, .ref a15, .int 0, .int (-1), .ref a16, .int 0, .ref a17, .ref a18, .ref a19, .int 0, .ref a20, .ref a21, .long 0, .ref a22, .int 0])), (a2, .inl (G.2 0, 5740, .inl (upd (upd (upd (fun _ => 0) 3 (-1)) 4 1000) 6 (-1)))), (a15, .inl (G.2 0, 200, .inl z26))]) [0, 1, 2] rfl
                have hDc := hD.sub (ws' := [(a0, .inr (12, [.int 0, .int 0, .ref a1, .ref a2, .ref a3, .ref a4, .int 0, .ref a5, .int 0, .int 0, .int 0, .int 0, .long 0, .int (-1), .int 0, .int 0, .ref a6, .int 0, .ref a7, .ref a8, .int 0, .ref a9, .ref a10, .int 0, .int 0, .ref a11, .ref a12, .int 0, .ref a13, .ref a14, .int 0, .long 0, .long 0, .int z25, .int n1, .int 2, .int 1000000, .int z24, .ref a15, .int 0, .int (-1), .ref a16, .int 0, .ref a17, .ref a18, .ref a19, .int 0, .ref a20, .ref a21, .long 0, .ref a22, .int 0])), (a2, .inl (G.2 0, 5740, .inl (upd (upd (upd (fun _ => 0) 3 (-1)) 4 1000) 6 (-1)))), (a15, .inl (G.2 0, 200, .inl z26))]) [0, 1, 2] (by decide) rfl
                have hFc := va_free (wc := [(a0, .inr (12, [.int 0, .int 0, .ref a1, .ref a2, .ref a3, .ref a4, .int 0, .ref a5, .int 0, .int 0, .int 0, .int 0, .long 0, .int (-1), .int 0, .int 0, .ref a6, .int 0, .ref a7, .ref a8, .int 0, .ref a9, .ref a10, .int 0, .int 0, .ref a11, .ref a12, .int 0, .ref a13, .ref a14, .int 0, .long 0, .long 0, .int z25, .int n1, .int 2, .int 1000000, .int z24, .ref a15, .int 0, .int (-1), .ref a16, .int 0, .ref a17, .ref a18, .ref a19, .int 0, .ref a20, .ref a21, .long 0, .ref a22, .int 0])), (a2, .inl (G.2 0, 5740, .inl (upd (upd (upd (fun _ => 0) 3 (-1)) 4 1000) 6 (-1)))), (a15, .inl (G.2 0, 200, .inl z26))]) hD hS hA [0, 1, 2] rfl
                refine va_callv (va_runV (As := [.int n0, .int 3, .int n1, .int 0]) (rest := []) ⟨hx, hb, hml, hown, hts⟩ (k_go3 l G a0 a2 a15 a1 a3 a4 a5 a6 a7 a8 a9 a10 a11 a12 a13 a14 a16 a17 a18 a19 a20 a21 a22 H.size n0 n1 0 z25 n1 2 1000000 z24 0 (-1) z26 ⟨by omega, by omega⟩ ⟨by omega, by omega⟩) (cwV 4 hts gV_X12_401 rfl rfl rfl hv_X12_go ⟨Nat.le_of_ble_eq_true rfl, Nat.le_of_ble_eq_true rfl⟩) (g5_preV hPc hK hDc hN hT hS hFc (ci := 12) (q0 := 0) rfl rfl) rfl rfl hl.1 rfl (lv_room (Nat.le_of_ble_eq_true rfl)) dX12_seenFrom_17 ⟨Nat.le_of_ble_eq_true rfl, Nat.le_of_ble_eq_true rfl⟩) hS (fun q _ h => hFc q h) hFc (fun u t H1 locs ht hvm hw hB hz1 hk1 hS => ?_)
                obtain ⟨hP1, hD1⟩ := hB
                rw [ht] at hP1
                obtain ⟨z33, z34, z35, i_29, i_30, i_31, i_32, rfl⟩ := hw
                have i_29 : z33.toInt = n0.toInt % 8 := i_29
                have i_30 : 0 ≤ z33.toInt ∧ z33.toInt ≤ 7 := i_30
                have i_31 : 0 ≤ z34.toInt ∧ z34.toInt ≤ 63 := i_31
                have i_32 : ∀ j : Nat, (j : Int) < z33.toInt → (z35 j).toInt = n1.toInt * 64 + (n0.toInt - ((j : Int) + 1)) := i_32
                obtain ⟨hP, hD⟩ := va_join (wr := []) (w1 := [(a0, .inr (12, [.int 0, .int 0, .ref a1, .ref a2, .ref a3, .ref a4, .int 0, .ref a5, .int 0, .int 0, .int 0, .int 0, .long 0, .int (-1), .int 0, .int 0, .ref a6, .int 0, .ref a7, .ref a8, .int 0, .ref a9, .ref a10, .int 0, .int 0, .ref a11, .ref a12, .int 0, .ref a13, .ref a14, .int 0, .long 0, .long 0, .int z34, .int n1, .int 3, .int 1000000, .int z33, .ref a15, .int 0, .int (-1), .ref a16, .int 0, .ref a17, .ref a18, .ref a19, .int 0, .ref a20, .ref a21, .long 0, .ref a22, .int 0])), (a2, .inl (G.2 0, 5740, .inl (upd (upd (upd (fun _ => 0) 3 (-1)) 4 1000) 6 (-1)))), (a15, .inl (G.2 0, 200, .inl z35))]) hP hD [0, 1, 2] [] rfl rfl (by decide) (by decide) hk1 hFc hP1 hD1
                generalize H1 = H at hP hS ⊢
                have hP : va_P G.1 vwCl [(a0, .inr (12, [.int 0, .int 0, .ref a1, .ref a2, .ref a3, .ref a4, .int 0, .ref a5, .int 0, .int 0, .int 0, .int 0, .long 0, .int (-1), .int 0, .int 0, .ref a6, .int 0, .ref a7, .ref a8, .int 0, .ref a9, .ref a10, .int 0, .int 0, .ref a11, .ref a12, .int 0, .ref a13, .ref a14, .int 0, .long 0, .long 0, .int z34, .int n1, .int 3, .int 1000000, .int z33, .ref a15, .int 0, .int (-1), .ref a16, .int 0, .ref a17, .ref a18, .ref a19, .int 0, .ref a20, .ref a21, .long 0, .ref a22, .int 0])), (a2, .inl (G.2 0, 5740, .inl (upd (upd (upd (fun _ => 0) 3 (-1)) 4 1000) 6 (-1)))), (a15, .inl (G.2 0, 200, .inl z35))] H := hP
                have hD : va_D A [(a0, .inr (12, [.int 0, .int 0, .ref a1, .ref a2, .ref a3, .ref a4, .int 0, .ref a5, .int 0, .int 0, .int 0, .int 0, .long 0, .int (-1), .int 0, .int 0, .ref a6, .int 0, .ref a7, .ref a8, .int 0, .ref a9, .ref a10, .int 0, .int 0, .ref a11, .ref a12, .int 0, .ref a13, .ref a14, .int 0, .long 0, .long 0, .int z34, .int n1, .int 3, .int 1000000, .int z33, .ref a15, .int 0, .int (-1), .ref a16, .int 0, .ref a17, .ref a18, .ref a19, .int 0, .ref a20, .ref a21, .long 0, .ref a22, .int 0])), (a2, .inl (G.2 0, 5740, .inl (upd (upd (upd (fun _ => 0) 3 (-1)) 4 1000) 6 (-1)))), (a15, .inl (G.2 0, 200, .inl z35))] := hD
                refine lv_iload_n hx hb dX12_seenFrom_20 rfl (lv_at hl 1 rfl) ?_
                refine lv_aload_n hx hb dX12_seenFrom_21 rfl (lv_at hl 2 rfl) ?_
                refine va_get (D := G.1) (ci := 12) (v := .int (-1)) (C := RX12) (T := TX12) (N := 52) hx hb hts inG_X12 hown hK hP 0 rfl rfl 40 (by decide) (hts _ fl_X12_371) (fun _ h9 => h9) rfl dX12_seenFrom_22 ?_
                refine lv_iconst (v := (-1)) hx hb dX12_seenFrom_25 (by decide) ?_
                refine lv_icmp_ne (tgt := 33) hx hb dX12_seenFrom_26 (by decide) (fun c_36 => ?_) (fun c_36 => ?_)
                ·
                  exact absurd c_36 (by decide)
                ·
                  refine lv_iconst (v := 0) hx hb dX12_seenFrom_29 (by decide) ?_
                  refine lv_goto (tgt := 39) hx hb dX12_seenFrom_30 (by decide) ?_
                  refine lv_ior hx hb dX12_seenFrom_39 ?_
                  refine g5_ti (v := 0) (by decide) ?_
                  refine lv_istore_n (lv' := [(3, .int 0), (4, .int 3), (0, .ref a0), (1, .int n0), (2, .int n1)]) hx hb dX12_seenFrom_40 rfl hl (by decide) rfl (fun ls hl => ?_)
                  refine lv_iinc (v := 4) (lv' := [(4, .int 4), (3, .int 0), (0, .ref a0), (1, .int n0), (2, .int n1)]) hx hb dX12_seenFrom_41 hl (k := 1) rfl (by decide) (by decide) rfl (fun ls hl => ?_)
                  refine lv_goto (tgt := 5) hx hb dX12_seenFrom_44 (by decide) ?_
                  refine lv_iload hx hb dX12_seenFrom_5 (lv_at hl 0 rfl) ?_
                  refine lv_iconst (v := 4) hx hb dX12_seenFrom_7 (by decide) ?_
                  refine lv_icmp_ge (tgt := 47) hx hb dX12_seenFrom_8 (by decide) (fun c_37 => ?_) (fun c_37 => ?_)
                  ·
                    refine lv_iload_n hx hb dX12_seenFrom_47 rfl (lv_at hl 1 rfl) ?_
                    exact W.iret (v := 0) hx hb hr (fun t ht hW => ⟨⟨0, [(a0, .inr (12, [.int 0, .int 0, .ref a1, .ref a2, .ref a3, .ref a4, .int 0, .ref a5, .int 0, .int 0, .int 0, .int 0, .long 0, .int (-1), .int 0, .int 0, .ref a6, .int 0, .ref a7, .ref a8, .int 0, .ref a9, .ref a10, .int 0, .int 0, .ref a11, .ref a12, .int 0, .ref a13, .ref a14, .int 0, .long 0, .long 0, .int z34, .int n1, .int 3, .int 1000000, .int z33, .ref a15, .int 0, .int (-1), .ref a16, .int 0, .ref a17, .ref a18, .ref a19, .int 0, .ref a20, .ref a21, .long 0, .ref a22, .int 0])), (a2, .inl (G.2 0, 5740, .inl (upd (upd (upd (fun _ => 0) 3 (-1)) 4 1000) 6 (-1)))), (a15, .inl (G.2 0, 200, .inl z35))], rfl, ⟨z6, z7, z8, z15, z16, z17, z24, z25, z26, z33, z34, z35, i_2, i_3, i_4, i_5, i_11, i_12, i_13, i_14, i_20, i_21, i_22, i_23, i_29, i_30, i_31, i_32, rfl, rfl⟩, by rw [ht]; exact hP, hD⟩, hS.F ht⟩) hS.2.2 dX12_seenFrom_48
                  ·
                    exact absurd c_37 (by decide)
theorem ml_X12_404 : Cond.methodLink RX12 404 yX12_seenFrom ∈ tblG := tg 1659 (by decide +kernel) (by decide +kernel)
theorem im_X12_seenFrom : Cond.instanceMethod yX12_seenFrom ∈ tblG := tg 1661 (by decide +kernel) (by decide +kernel)
theorem se_X12_seenFrom : Cond.selects RX12 yX12_seenFrom yX12_seenFrom ∈ tblG := tg 70 (by decide +kernel) (by decide +kernel)
theorem cd_X12_seenFrom : Cond.code yX12_seenFrom cX12_seenFrom 5 (some .int) ∈ tblG := tg 1662 (by decide +kernel) (by decide +kernel)
theorem gW_X12_seenFrom : GoodIn tblG (wsG yX12_seenFrom cX12_seenFrom 5 (some .int)) := tgi cd_X12_seenFrom
theorem gV_X12_404 : GoodIn tblG (wsV RX12 404 RX12 yX12_seenFrom (wsG yX12_seenFrom cX12_seenFrom 5 (some .int))) := tgV ml_X12_404 im_X12_seenFrom se_X12_seenFrom ini_X12 gW_X12_seenFrom
theorem hv_X12_seenFrom : yX12_seenFrom.cls = RX12 ∧ yX12_seenFrom.cls ≠ "java/lang/invoke/MethodHandle" ∧ yX12_seenFrom.cls ≠ "java/lang/invoke/VarHandle" ∧ (parseMethodDescriptor yX12_seenFrom.desc).map (fun d => d.parameters.length) = some 2 := by decide +kernel
theorem dX12_sees_0 : decode cX12_sees 0 = .ok (.aload_n 0, 1) := by decide +kernel
theorem dX12_sees_1 : decode cX12_sees 1 = .ok (.iconst 0, 1) := by decide +kernel
theorem dX12_sees_2 : decode cX12_sees 2 = .ok (.putfield 107, 3) := by decide +kernel
theorem dX12_sees_5 : decode cX12_sees 5 = .ok (.iload_n 1, 1) := by decide +kernel
theorem dX12_sees_6 : decode cX12_sees 6 = .ok (.invokestatic 138, 3) := by decide +kernel
theorem dX12_sees_9 : decode cX12_sees 9 = .ok (.ifCond .eq 19, 3) := by decide +kernel
theorem dX12_sees_12 : decode cX12_sees 12 = .ok (.iload_n 2, 1) := by decide +kernel
theorem dX12_sees_13 : decode cX12_sees 13 = .ok (.invokestatic 175, 3) := by decide +kernel
theorem dX12_sees_16 : decode cX12_sees 16 = .ok (.ifCond .eq 12, 3) := by decide +kernel
theorem dX12_sees_19 : decode cX12_sees 19 = .ok (.aload_n 0, 1) := by decide +kernel
theorem dX12_sees_20 : decode cX12_sees 20 = .ok (.iload_n 1, 1) := by decide +kernel
theorem dX12_sees_21 : decode cX12_sees 21 = .ok (.iload_n 2, 1) := by decide +kernel
theorem dX12_sees_22 : decode cX12_sees 22 = .ok (.invokevirtual 404, 3) := by decide +kernel
theorem dX12_sees_25 : decode cX12_sees 25 = .ok (.goto 4, 3) := by decide +kernel
theorem dX12_sees_28 : decode cX12_sees 28 = .ok (.iconst (-1), 1) := by decide +kernel
theorem dX12_sees_29 : decode cX12_sees 29 = .ok (.ireturn, 1) := by decide +kernel
set_option maxHeartbeats 4000000 in
set_option maxRecDepth 100000 in
theorem kX12_sees (l : Launch) (G : g5_G) (a0 a1 a2 a3 a4 a5 a6 a7 a8 a9 a10 a11 a12 a13 a14 a15 a16 a17 a18 a19 a20 a21 a22 : Nat) (sz : Nat) (n0 : Int32) (n1 : Int32) : Met l yX12_sees (wsG yX12_sees cX12_sees 3 (some .int)) ({ frames := 3, cells := 0, slots := 0, locals := 72 }) (va_Pc [.ref a0, .int n0, .int n1] (g5_P G [(a0, .inr (12, [.int 0, .int 0, .ref a1, .ref a2, .ref a3, .ref a4, .int 0, .ref a5, .int 0, .int 0, .int 0, .int 0, .long 0, .int (-1), .int 0, .int 0, .ref a6, .int 0, .ref a7, .ref a8, .int 0, .ref a9, .ref a10, .int 0, .int 0, .ref a11, .ref a12, .int 0, .ref a13, .ref a14, .int 0, .long 0, .long 0, .int 0, .int 0, .int 0, .int 0, .int 0, .ref a15, .int 0, .int 0, .ref a16, .int 0, .ref a17, .ref a18, .ref a19, .int 0, .ref a20, .ref a21, .long 0, .ref a22, .int 0])), (a2, .inl (G.2 0, 5740, .inl (upd (upd (upd (fun _ => 0) 3 (-1)) 4 1000) 6 (-1)))), (a15, .inl (G.2 0, 200, .inl (fun _ => 0)))] sz)) (va_Qi (fun (r : Int32) (u : va_W) => ((n0.toInt < 0 ∨ 63 < n0.toInt) ∧ (r = (-1)) ∧ (u = [])) ∨ ((0 ≤ n0.toInt ∧ n0.toInt ≤ 63) ∧ (n1.toInt < 0 ∨ 23 < n1.toInt) ∧ (r = (-1)) ∧ (u = [])) ∨ (∃ (z25 : Int32) (z26 : Int32) (z27 : Nat → Int32) (z28 : Int32) (z29 : Int32) (z30 : Nat → Int32) (z31 : Int32) (z32 : Int32) (z33 : Nat → Int32) (z34 : Int32) (z35 : Int32) (z36 : Nat → Int32), (0 ≤ n0.toInt ∧ n0.toInt ≤ 63) ∧ (0 ≤ n1.toInt ∧ n1.toInt ≤ 23) ∧ (z25.toInt = n0.toInt / 8) ∧ (0 ≤ z25.toInt ∧ z25.toInt ≤ 7) ∧ (0 ≤ z26.toInt ∧ z26.toInt ≤ 63) ∧ (∀ j : Nat, (j : Int) < z25.toInt → (z27 j).toInt = n1.toInt * 64 + (n0.toInt - 8 * ((j : Int) + 1))) ∧ (z28.toInt = 7 - n0.toInt % 8) ∧ (0 ≤ z28.toInt ∧ z28.toInt ≤ 7) ∧ (0 ≤ z29.toInt ∧ z29.toInt ≤ 63) ∧ (∀ j : Nat, (j : Int) < z28.toInt → (z30 j).toInt = n1.toInt * 64 + (n0.toInt + ((j : Int) + 1))) ∧ (z31.toInt = 7 - n0.toInt / 8) ∧ (0 ≤ z31.toInt ∧ z31.toInt ≤ 7) ∧ (0 ≤ z32.toInt ∧ z32.toInt ≤ 63) ∧ (∀ j : Nat, (j : Int) < z31.toInt → (z33 j).toInt = n1.toInt * 64 + (n0.toInt + 8 * ((j : Int) + 1))) ∧ (z34.toInt = n0.toInt % 8) ∧ (0 ≤ z34.toInt ∧ z34.toInt ≤ 7) ∧ (0 ≤ z35.toInt ∧ z35.toInt ≤ 63) ∧ (∀ j : Nat, (j : Int) < z34.toInt → (z36 j).toInt = n1.toInt * 64 + (n0.toInt - ((j : Int) + 1))) ∧ (r = 0) ∧ (u = []))) (g5_B G (va_A [(a0, .inr (12, [.int 0, .int 0, .ref a1, .ref a2, .ref a3, .ref a4, .int 0, .ref a5, .int 0, .int 0, .int 0, .int 0, .long 0, .int (-1), .int 0, .int 0, .ref a6, .int 0, .ref a7, .ref a8, .int 0, .ref a9, .ref a10, .int 0, .int 0, .ref a11, .ref a12, .int 0, .ref a13, .ref a14, .int 0, .long 0, .long 0, .int 0, .int 0, .int 0, .int 0, .int 0, .ref a15, .int 0, .int 0, .ref a16, .int 0, .ref a17, .ref a18, .ref a19, .int 0, .ref a20, .ref a21, .long 0, .ref a22, .int 0])), (a2, .inl (G.2 0, 5740, .inl (upd (upd (upd (fun _ => 0) 3 (-1)) 4 1000) 6 (-1)))), (a15, .inl (G.2 0, 200, .inl (fun _ => 0)))] sz)) (va_A [(a0, .inr (12, [.int 0, .int 0, .ref a1, .ref a2, .ref a3, .ref a4, .int 0, .ref a5, .int 0, .int 0, .int 0, .int 0, .long 0, .int (-1), .int 0, .int 0, .ref a6, .int 0, .ref a7, .ref a8, .int 0, .ref a9, .ref a10, .int 0, .int 0, .ref a11, .ref a12, .int 0, .ref a13, .ref a14, .int 0, .long 0, .long 0, .int 0, .int 0, .int 0, .int 0, .int 0, .ref a15, .int 0, .int 0, .ref a16, .int 0, .ref a17, .ref a18, .ref a19, .int 0, .ref a20, .ref a21, .long 0, .ref a22, .int 0])), (a2, .inl (G.2 0, 5740, .inl (upd (upd (upd (fun _ => 0) 3 (-1)) 4 1000) 6 (-1)))), (a15, .inl (G.2 0, 200, .inl (fun _ => 0)))] sz)) 0 0 (va_A [(a0, .inr (12, [.int 0, .int 0, .ref a1, .ref a2, .ref a3, .ref a4, .int 0, .ref a5, .int 0, .int 0, .int 0, .int 0, .long 0, .int (-1), .int 0, .int 0, .ref a6, .int 0, .ref a7, .ref a8, .int 0, .ref a9, .ref a10, .int 0, .int 0, .ref a11, .ref a12, .int 0, .ref a13, .ref a14, .int 0, .long 0, .long 0, .int 0, .int 0, .int 0, .int 0, .int 0, .ref a15, .int 0, .int 0, .ref a16, .int 0, .ref a17, .ref a18, .ref a19, .int 0, .ref a20, .ref a21, .long 0, .ref a22, .int 0])), (a2, .inl (G.2 0, 5740, .inl (upd (upd (upd (fun _ => 0) 3 (-1)) 4 1000) 6 (-1)))), (a15, .inl (G.2 0, 200, .inl (fun _ => 0)))] sz) := by
  refine Met.ofW (cc := cX12_sees) (maxL := 3) (ret := (some .int)) (by decide) rfl ?_
  intro p e s m args below meth c s₁ B hml hv
  obtain ⟨rfl, hsz, hP, hK, hD0, hN, hT⟩ := hv
  have hx := B.exec
  have hb := B.bytes
  have hr := B.returns
  have hts : ∀ w ∈ tblG, w.before _ s = true := fun w h => atoms_spec (ws := (wsG yX12_sees cX12_sees 3 (some .int))) B.pre w (List.mem_cons_of_mem _ h)
  have hown : s.vm.findClass RX12 = some m.cls := findClass_of_methodNamed B.named
  have hlocks := B.notSynchronized
  subst hsz
  have hD := hD0.self (sz := s.heap.size)
  generalize hAe : va_A [(a0, .inr (12, [.int 0, .int 0, .ref a1, .ref a2, .ref a3, .ref a4, .int 0, .ref a5, .int 0, .int 0, .int 0, .int 0, .long 0, .int (-1), .int 0, .int 0, .ref a6, .int 0, .ref a7, .ref a8, .int 0, .ref a9, .ref a10, .int 0, .int 0, .ref a11, .ref a12, .int 0, .ref a13, .ref a14, .int 0, .long 0, .long 0, .int 0, .int 0, .int 0, .int 0, .int 0, .ref a15, .int 0, .int 0, .ref a16, .int 0, .ref a17, .ref a18, .ref a19, .int 0, .ref a20, .ref a21, .long 0, .ref a22, .int 0])), (a2, .inl (G.2 0, 5740, .inl (upd (upd (upd (fun _ => 0) 3 (-1)) 4 1000) 6 (-1)))), (a15, .inl (G.2 0, 200, .inl (fun _ => 0)))] s.heap.size = A at hD hT ⊢
  have hA : ∀ q : Nat, s.heap.size ≤ q → A q := fun q h => by rw [← hAe]; exact Or.inr h
  have hS : va_S A s.heap s.heap [] := va_S.rf
  have hP : va_P G.1 vwCl [(a0, .inr (12, [.int 0, .int 0, .ref a1, .ref a2, .ref a3, .ref a4, .int 0, .ref a5, .int 0, .int 0, .int 0, .int 0, .long 0, .int (-1), .int 0, .int 0, .ref a6, .int 0, .ref a7, .ref a8, .int 0, .ref a9, .ref a10, .int 0, .int 0, .ref a11, .ref a12, .int 0, .ref a13, .ref a14, .int 0, .long 0, .long 0, .int 0, .int 0, .int 0, .int 0, .int 0, .ref a15, .int 0, .int 0, .ref a16, .int 0, .ref a17, .ref a18, .ref a19, .int 0, .ref a20, .ref a21, .long 0, .ref a22, .int 0])), (a2, .inl (G.2 0, 5740, .inl (upd (upd (upd (fun _ => 0) 3 (-1)) 4 1000) 6 (-1)))), (a15, .inl (G.2 0, 200, .inl (fun _ => 0)))] s.heap := hP
  have hl := lv_entry ([.ref a0, .int n0, .int n1]) (n := 3) (Nat.le_of_ble_eq_true rfl)
  rw [lg_entry_eq]
  generalize (lg_sl ([.ref a0, .int n0, .int n1]) ++ List.replicate (3 - (lg_sl ([.ref a0, .int n0, .int n1])).length) Slot.unset).toArray = ls at hl ⊢
  have hl : lv_has ls 3 [(0, .ref a0), (1, .int n0), (2, .int n1)] := hl
  refine lv_aload_n hx hb dX12_sees_0 rfl (lv_at hl 0 rfl) ?_
  refine lv_iconst (v := 0) hx hb dX12_sees_1 (by decide) ?_
  refine va_put (D := G.1) (ci := 12) (v := .int 0) (ty := .int) (C := RX12) (T := TX12) (N := 52) hx hb hts inG_X12 tyX12 tyX12_ok nmX12 hown hK hP hD hS 0 rfl rfl 0 (by decide) (hts _ fl_X12_107) (fun _ h9 => h9) rfl (by decide +kernel) rfl rfl (Nat.le_of_ble_eq_true rfl) dX12_sees_2 (fun H locs hP hD hS => ?_)
  have hP : va_P G.1 vwCl [(a0, .inr (12, [.int 0, .int 0, .ref a1, .ref a2, .ref a3, .ref a4, .int 0, .ref a5, .int 0, .int 0, .int 0, .int 0, .long 0, .int (-1), .int 0, .int 0, .ref a6, .int 0, .ref a7, .ref a8, .int 0, .ref a9, .ref a10, .int 0, .int 0, .ref a11, .ref a12, .int 0, .ref a13, .ref a14, .int 0, .long 0, .long 0, .int 0, .int 0, .int 0, .int 0, .int 0, .ref a15, .int 0, .int 0, .ref a16, .int 0, .ref a17, .ref a18, .ref a19, .int 0, .ref a20, .ref a21, .long 0, .ref a22, .int 0])), (a2, .inl (G.2 0, 5740, .inl (upd (upd (upd (fun _ => 0) 3 (-1)) 4 1000) 6 (-1)))), (a15, .inl (G.2 0, 200, .inl (fun _ => 0)))] H := hP
  have hD : va_D A [(a0, .inr (12, [.int 0, .int 0, .ref a1, .ref a2, .ref a3, .ref a4, .int 0, .ref a5, .int 0, .int 0, .int 0, .int 0, .long 0, .int (-1), .int 0, .int 0, .ref a6, .int 0, .ref a7, .ref a8, .int 0, .ref a9, .ref a10, .int 0, .int 0, .ref a11, .ref a12, .int 0, .ref a13, .ref a14, .int 0, .long 0, .long 0, .int 0, .int 0, .int 0, .int 0, .int 0, .ref a15, .int 0, .int 0, .ref a16, .int 0, .ref a17, .ref a18, .ref a19, .int 0, .ref a20, .ref a21, .long 0, .ref a22, .int 0])), (a2, .inl (G.2 0, 5740, .inl (upd (upd (upd (fun _ => 0) 3 (-1)) 4 1000) 6 (-1)))), (a15, .inl (G.2 0, 200, .inl (fun _ => 0)))] := hD
  refine lv_iload_n hx hb dX12_sees_5 rfl (lv_at hl 1 rfl) ?_
  have hPc := hP.sub (ws' := []) [] rfl
  have hDc := hD.sub (ws' := []) [] (by decide) rfl
  have hFc := va_free (wc := []) hD hS hA [] rfl
  refine va_calli (va_runS (As := [.int n0]) (rest := []) ⟨hx, hb, hml, hown, hts⟩ (kX12_isCell l G H.size n0) (va_cwS 1 hts gS_X12_138 rfl rfl rfl hs_X12_isCell ⟨Nat.le_of_ble_eq_true rfl, Nat.le_of_ble_eq_true rfl⟩) (g5_preS hPc hK hDc hN hT hS hFc) rfl rfl hl.1 rfl (lv_room (Nat.le_of_ble_eq_true rfl)) dX12_sees_6 ⟨Nat.le_of_ble_eq_true rfl, Nat.le_of_ble_eq_true rfl⟩) hS (fun q _ h => hFc q h) hFc (fun r u t H1 locs ht hvm hw hB hz1 hk1 hS => ?_)
  obtain ⟨hP1, hD1⟩ := hB
  rw [ht] at hP1
  rcases hw with ⟨i_1, rfl, rfl⟩ | ⟨i_2, rfl, rfl⟩
  ·
    have hP := g5_same hP hk1
    generalize H1 = H at hP hS ⊢
    refine lv_if_eq (tgt := 28) hx hb dX12_sees_9 (by decide) (fun c_3 => ?_) (fun c_3 => ?_)
    ·
      refine lv_iconst (v := (-1)) hx hb dX12_sees_28 (by decide) ?_
      have hP := hP.sub (ws' := []) [] rfl
      have hD := hD.sub (ws' := []) [] (by decide) rfl
      exact W.iret (v := (-1)) hx hb hr (fun t ht hW => ⟨⟨(-1), [], rfl, Or.inl (⟨i_1, rfl, rfl⟩), by rw [ht]; exact hP, hD⟩, hS.F ht⟩) hS.2.2 dX12_sees_29
    ·
      exact absurd c_3 (by decide)
  ·
    have hP := g5_same hP hk1
    generalize H1 = H at hP hS ⊢
    refine lv_if_eq (tgt := 28) hx hb dX12_sees_9 (by decide) (fun c_4 => ?_) (fun c_4 => ?_)
    ·
      exact absurd c_4 (by decide)
    ·
      refine lv_iload_n hx hb dX12_sees_12 rfl (lv_at hl 2 rfl) ?_
      have hPc := hP.sub (ws' := []) [] rfl
      have hDc := hD.sub (ws' := []) [] (by decide) rfl
      have hFc := va_free (wc := []) hD hS hA [] rfl
      refine va_calli (va_runS (As := [.int n1]) (rest := []) ⟨hx, hb, hml, hown, hts⟩ (kX12_isHour l G H.size n1) (va_cwS 1 hts gS_X12_175 rfl rfl rfl hs_X12_isHour ⟨Nat.le_of_ble_eq_true rfl, Nat.le_of_ble_eq_true rfl⟩) (g5_preS hPc hK hDc hN hT hS hFc) rfl rfl hl.1 rfl (lv_room (Nat.le_of_ble_eq_true rfl)) dX12_sees_13 ⟨Nat.le_of_ble_eq_true rfl, Nat.le_of_ble_eq_true rfl⟩) hS (fun q _ h => hFc q h) hFc (fun r u t H1 locs ht hvm hw hB hz1 hk1 hS => ?_)
      obtain ⟨hP1, hD1⟩ := hB
      rw [ht] at hP1
      rcases hw with ⟨i_5, rfl, rfl⟩ | ⟨i_6, rfl, rfl⟩
      ·
        have hP := g5_same hP hk1
        generalize H1 = H at hP hS ⊢
        refine lv_if_eq (tgt := 28) hx hb dX12_sees_16 (by decide) (fun c_7 => ?_) (fun c_7 => ?_)
        ·
          refine lv_iconst (v := (-1)) hx hb dX12_sees_28 (by decide) ?_
          have hP := hP.sub (ws' := []) [] rfl
          have hD := hD.sub (ws' := []) [] (by decide) rfl
          exact W.iret (v := (-1)) hx hb hr (fun t ht hW => ⟨⟨(-1), [], rfl, Or.inr (Or.inl (⟨i_2, i_5, rfl, rfl⟩)), by rw [ht]; exact hP, hD⟩, hS.F ht⟩) hS.2.2 dX12_sees_29
        ·
          exact absurd c_7 (by decide)
      ·
        have hP := g5_same hP hk1
        generalize H1 = H at hP hS ⊢
        refine lv_if_eq (tgt := 28) hx hb dX12_sees_16 (by decide) (fun c_8 => ?_) (fun c_8 => ?_)
        ·
          exact absurd c_8 (by decide)
        ·
          refine lv_aload_n hx hb dX12_sees_19 rfl (lv_at hl 0 rfl) ?_
          refine lv_iload_n hx hb dX12_sees_20 rfl (lv_at hl 1 rfl) ?_
          refine lv_iload_n hx hb dX12_sees_21 rfl (lv_at hl 2 rfl) ?_
          have hPc := hP.sub (ws' := [(a0, .inr (12, [.int 0, .int 0, .ref a1, .ref a2, .ref a3, .ref a4, .int 0, .ref a5, .int 0, .int 0, .int 0, .int 0, .long 0, .int (-1), .int 0, .int 0, .ref a6, .int 0, .ref a7, .ref a8, .int 0, .ref a9, .ref a10, .int 0, .int 0, .ref a11, .ref a12, .int 0, .ref a13, .ref a14, .int 0, .long 0, .long 0, .int 0, .int 0, .int 0, .int 0, .int 0, .ref a15, .int 0, .int 0, .ref a16, .int 0, .ref a17, .ref a18, .ref a19, .int 0, .ref a20, .ref a21, .long 0, .ref a22, .int 0])), (a2, .inl (G.2 0, 5740, .inl (upd (upd (upd (fun _ => 0) 3 (-1)) 4 1000) 6 (-1)))), (a15, .inl (G.2 0, 200, .inl (fun _ => 0)))]) [0, 1, 2] rfl
          have hDc := hD.sub (ws' := [(a0, .inr (12, [.int 0, .int 0, .ref a1, .ref a2, .ref a3, .ref a4, .int 0, .ref a5, .int 0, .int 0, .int 0, .int 0, .long 0, .int (-1), .int 0, .int 0, .ref a6, .int 0, .ref a7, .ref a8, .int 0, .ref a9, .ref a10, .int 0, .int 0, .ref a11, .ref a12, .int 0, .ref a13, .ref a14, .int 0, .long 0, .long 0, .int 0, .int 0, .int 0, .int 0, .int 0, .ref a15, .int 0, .int 0, .ref a16, .int 0, .ref a17, .ref a18, .ref a19, .int 0, .ref a20, .ref a21, .long 0, .ref a22, .int 0])), (a2, .inl (G.2 0, 5740, .inl (upd (upd (upd (fun _ => 0) 3 (-1)) 4 1000) 6 (-1)))), (a15, .inl (G.2 0, 200, .inl (fun _ => 0)))]) [0, 1, 2] (by decide) rfl
          have hFc := va_free (wc := [(a0, .inr (12, [.int 0, .int 0, .ref a1, .ref a2, .ref a3, .ref a4, .int 0, .ref a5, .int 0, .int 0, .int 0, .int 0, .long 0, .int (-1), .int 0, .int 0, .ref a6, .int 0, .ref a7, .ref a8, .int 0, .ref a9, .ref a10, .int 0, .int 0, .ref a11, .ref a12, .int 0, .ref a13, .ref a14, .int 0, .long 0, .long 0, .int 0, .int 0, .int 0, .int 0, .int 0, .ref a15, .int 0, .int 0, .ref a16, .int 0, .ref a17, .ref a18, .ref a19, .int 0, .ref a20, .ref a21, .long 0, .ref a22, .int 0])), (a2, .inl (G.2 0, 5740, .inl (upd (upd (upd (fun _ => 0) 3 (-1)) 4 1000) 6 (-1)))), (a15, .inl (G.2 0, 200, .inl (fun _ => 0)))]) hD hS hA [0, 1, 2] rfl
          refine va_calli (va_runV (As := [.int n0, .int n1]) (rest := []) ⟨hx, hb, hml, hown, hts⟩ (kX12_seenFrom l G a0 a1 a2 a3 a4 a5 a6 a7 a8 a9 a10 a11 a12 a13 a14 a15 a16 a17 a18 a19 a20 a21 a22 H.size n0 n1 ⟨by omega, by omega⟩ ⟨by omega, by omega⟩) (cwV 2 hts gV_X12_404 rfl rfl rfl hv_X12_seenFrom ⟨Nat.le_of_ble_eq_true rfl, Nat.le_of_ble_eq_true rfl⟩) (g5_preV hPc hK hDc hN hT hS hFc (ci := 12) (q0 := 0) rfl rfl) rfl rfl hl.1 rfl (lv_room (Nat.le_of_ble_eq_true rfl)) dX12_sees_22 ⟨Nat.le_of_ble_eq_true rfl, Nat.le_of_ble_eq_true rfl⟩) hS (fun q _ h => hFc q h) hFc (fun r u t H1 locs ht hvm hw hB hz1 hk1 hS => ?_)
          obtain ⟨hP1, hD1⟩ := hB
          rw [ht] at hP1
          obtain ⟨z25, z26, z27, z28, z29, z30, z31, z32, z33, z34, z35, z36, i_9, i_10, i_11, i_12, i_13, i_14, i_15, i_16, i_17, i_18, i_19, i_20, i_21, i_22, i_23, i_24, rfl, rfl⟩ := hw
          obtain ⟨hP, hD⟩ := va_join (wr := []) (w1 := [(a0, .inr (12, [.int 0, .int 0, .ref a1, .ref a2, .ref a3, .ref a4, .int 0, .ref a5, .int 0, .int 0, .int 0, .int 0, .long 0, .int (-1), .int 0, .int 0, .ref a6, .int 0, .ref a7, .ref a8, .int 0, .ref a9, .ref a10, .int 0, .int 0, .ref a11, .ref a12, .int 0, .ref a13, .ref a14, .int 0, .long 0, .long 0, .int z35, .int n1, .int 3, .int 1000000, .int z34, .ref a15, .int 0, .int (-1), .ref a16, .int 0, .ref a17, .ref a18, .ref a19, .int 0, .ref a20, .ref a21, .long 0, .ref a22, .int 0])), (a2, .inl (G.2 0, 5740, .inl (upd (upd (upd (fun _ => 0) 3 (-1)) 4 1000) 6 (-1)))), (a15, .inl (G.2 0, 200, .inl z36))]) hP hD [0, 1, 2] [] rfl rfl (by decide) (by decide) hk1 hFc hP1 hD1
          generalize H1 = H at hP hS ⊢
          have hP : va_P G.1 vwCl [(a0, .inr (12, [.int 0, .int 0, .ref a1, .ref a2, .ref a3, .ref a4, .int 0, .ref a5, .int 0, .int 0, .int 0, .int 0, .long 0, .int (-1), .int 0, .int 0, .ref a6, .int 0, .ref a7, .ref a8, .int 0, .ref a9, .ref a10, .int 0, .int 0, .ref a11, .ref a12, .int 0, .ref a13, .ref a14, .int 0, .long 0, .long 0, .int z35, .int n1, .int 3, .int 1000000, .int z34, .ref a15, .int 0, .int (-1), .ref a16, .int 0, .ref a17, .ref a18, .ref a19, .int 0, .ref a20, .ref a21, .long 0, .ref a22, .int 0])), (a2, .inl (G.2 0, 5740, .inl (upd (upd (upd (fun _ => 0) 3 (-1)) 4 1000) 6 (-1)))), (a15, .inl (G.2 0, 200, .inl z36))] H := hP
          have hD : va_D A [(a0, .inr (12, [.int 0, .int 0, .ref a1, .ref a2, .ref a3, .ref a4, .int 0, .ref a5, .int 0, .int 0, .int 0, .int 0, .long 0, .int (-1), .int 0, .int 0, .ref a6, .int 0, .ref a7, .ref a8, .int 0, .ref a9, .ref a10, .int 0, .int 0, .ref a11, .ref a12, .int 0, .ref a13, .ref a14, .int 0, .long 0, .long 0, .int z35, .int n1, .int 3, .int 1000000, .int z34, .ref a15, .int 0, .int (-1), .ref a16, .int 0, .ref a17, .ref a18, .ref a19, .int 0, .ref a20, .ref a21, .long 0, .ref a22, .int 0])), (a2, .inl (G.2 0, 5740, .inl (upd (upd (upd (fun _ => 0) 3 (-1)) 4 1000) 6 (-1)))), (a15, .inl (G.2 0, 200, .inl z36))] := hD
          refine lv_goto (tgt := 29) hx hb dX12_sees_25 (by decide) ?_
          have hP := hP.sub (ws' := []) [] rfl
          have hD := hD.sub (ws' := []) [] (by decide) rfl
          exact W.iret (v := 0) hx hb hr (fun t ht hW => ⟨⟨0, [], rfl, Or.inr (Or.inr (⟨z25, z26, z27, z28, z29, z30, z31, z32, z33, z34, z35, z36, i_2, i_6, i_9, i_10, i_11, i_12, i_13, i_14, i_15, i_16, i_17, i_18, i_19, i_20, i_21, i_22, i_23, i_24, rfl, rfl⟩)), by rw [ht]; exact hP, hD⟩, hS.F ht⟩) hS.2.2 dX12_sees_29
theorem dX12_late_0 : decode cX12_late 0 = .ok (.aload_n 0, 1) := by decide +kernel
theorem dX12_late_1 : decode cX12_late 1 = .ok (.iconst 0, 1) := by decide +kernel
theorem dX12_late_2 : decode cX12_late 2 = .ok (.putfield 107, 3) := by decide +kernel
theorem dX12_late_5 : decode cX12_late 5 = .ok (.aload_n 0, 1) := by decide +kernel
theorem dX12_late_6 : decode cX12_late 6 = .ok (.iload_n 1, 1) := by decide +kernel
theorem dX12_late_7 : decode cX12_late 7 = .ok (.invokevirtual 180, 3) := by decide +kernel
theorem dX12_late_10 : decode cX12_late 10 = .ok (.ifCond .eq 28, 3) := by decide +kernel
theorem dX12_late_13 : decode cX12_late 13 = .ok (.aload_n 0, 1) := by decide +kernel
theorem dX12_late_14 : decode cX12_late 14 = .ok (.iload_n 2, 1) := by decide +kernel
theorem dX12_late_15 : decode cX12_late 15 = .ok (.invokevirtual 180, 3) := by decide +kernel
theorem dX12_late_18 : decode cX12_late 18 = .ok (.ifCond .eq 20, 3) := by decide +kernel
theorem dX12_late_21 : decode cX12_late 21 = .ok (.iload_n 3, 1) := by decide +kernel
theorem dX12_late_22 : decode cX12_late 22 = .ok (.invokestatic 175, 3) := by decide +kernel
theorem dX12_late_25 : decode cX12_late 25 = .ok (.ifCond .eq 13, 3) := by decide +kernel
theorem dX12_late_28 : decode cX12_late 28 = .ok (.aload_n 0, 1) := by decide +kernel
theorem dX12_late_29 : decode cX12_late 29 = .ok (.iload_n 1, 1) := by decide +kernel
theorem dX12_late_30 : decode cX12_late 30 = .ok (.iload_n 2, 1) := by decide +kernel
theorem dX12_late_31 : decode cX12_late 31 = .ok (.iload_n 3, 1) := by decide +kernel
theorem dX12_late_32 : decode cX12_late 32 = .ok (.invokevirtual 407, 3) := by decide +kernel
theorem dX12_late_35 : decode cX12_late 35 = .ok (.goto 4, 3) := by decide +kernel
theorem dX12_late_38 : decode cX12_late 38 = .ok (.iconst (-1), 1) := by decide +kernel
theorem dX12_late_39 : decode cX12_late 39 = .ok (.ireturn, 1) := by decide +kernel
set_option maxHeartbeats 4000000 in
set_option maxRecDepth 100000 in
theorem kX12_late (l : Launch) (G : g5_G) (a0 a1 a2 a3 a4 a5 a6 a7 a8 a9 a10 a11 a12 a13 a14 a15 a16 a17 a18 a19 a20 a21 a22 : Nat) (sz : Nat) (n0 : Int32) (n1 : Int32) (n2 : Int32) : Met l yX12_late (wsG yX12_late cX12_late 4 (some .int)) ({ frames := 2, cells := 0, slots := 0, locals := 46 }) (va_Pc [.ref a0, .int n0, .int n1, .int n2] (g5_P G [(a0, .inr (12, [.int 0, .int 0, .ref a1, .ref a2, .ref a3, .ref a4, .int 0, .ref a5, .int 0, .int 0, .int 0, .int 0, .long 0, .int (-1), .int 0, .int 0, .ref a6, .int 0, .ref a7, .ref a8, .int 0, .ref a9, .ref a10, .int 0, .int 0, .ref a11, .ref a12, .int 0, .ref a13, .ref a14, .int 0, .long 0, .long 0, .int 0, .int 0, .int 0, .int 0, .int 0, .ref a15, .int 0, .int 0, .ref a16, .int 0, .ref a17, .ref a18, .ref a19, .int 0, .ref a20, .ref a21, .long 0, .ref a22, .int 0])), (a2, .inl (G.2 0, 5740, .inl (upd (upd (upd (fun _ => 0) 3 (-1)) 4 1000) 6 (-1))))] sz)) (va_Qi (fun (r : Int32) (u : va_W) => ((n0.toInt < 0 ∨ (-1) < n0.toInt) ∧ (r = (-1)) ∧ (u = []))) (g5_B G (va_A [(a0, .inr (12, [.int 0, .int 0, .ref a1, .ref a2, .ref a3, .ref a4, .int 0, .ref a5, .int 0, .int 0, .int 0, .int 0, .long 0, .int (-1), .int 0, .int 0, .ref a6, .int 0, .ref a7, .ref a8, .int 0, .ref a9, .ref a10, .int 0, .int 0, .ref a11, .ref a12, .int 0, .ref a13, .ref a14, .int 0, .long 0, .long 0, .int 0, .int 0, .int 0, .int 0, .int 0, .ref a15, .int 0, .int 0, .ref a16, .int 0, .ref a17, .ref a18, .ref a19, .int 0, .ref a20, .ref a21, .long 0, .ref a22, .int 0])), (a2, .inl (G.2 0, 5740, .inl (upd (upd (upd (fun _ => 0) 3 (-1)) 4 1000) 6 (-1))))] sz)) (va_A [(a0, .inr (12, [.int 0, .int 0, .ref a1, .ref a2, .ref a3, .ref a4, .int 0, .ref a5, .int 0, .int 0, .int 0, .int 0, .long 0, .int (-1), .int 0, .int 0, .ref a6, .int 0, .ref a7, .ref a8, .int 0, .ref a9, .ref a10, .int 0, .int 0, .ref a11, .ref a12, .int 0, .ref a13, .ref a14, .int 0, .long 0, .long 0, .int 0, .int 0, .int 0, .int 0, .int 0, .ref a15, .int 0, .int 0, .ref a16, .int 0, .ref a17, .ref a18, .ref a19, .int 0, .ref a20, .ref a21, .long 0, .ref a22, .int 0])), (a2, .inl (G.2 0, 5740, .inl (upd (upd (upd (fun _ => 0) 3 (-1)) 4 1000) 6 (-1))))] sz)) 0 0 (va_A [(a0, .inr (12, [.int 0, .int 0, .ref a1, .ref a2, .ref a3, .ref a4, .int 0, .ref a5, .int 0, .int 0, .int 0, .int 0, .long 0, .int (-1), .int 0, .int 0, .ref a6, .int 0, .ref a7, .ref a8, .int 0, .ref a9, .ref a10, .int 0, .int 0, .ref a11, .ref a12, .int 0, .ref a13, .ref a14, .int 0, .long 0, .long 0, .int 0, .int 0, .int 0, .int 0, .int 0, .ref a15, .int 0, .int 0, .ref a16, .int 0, .ref a17, .ref a18, .ref a19, .int 0, .ref a20, .ref a21, .long 0, .ref a22, .int 0])), (a2, .inl (G.2 0, 5740, .inl (upd (upd (upd (fun _ => 0) 3 (-1)) 4 1000) 6 (-1))))] sz) := by
  refine Met.ofW (cc := cX12_late) (maxL := 4) (ret := (some .int)) (by decide) rfl ?_
  intro p e s m args below meth c s₁ B hml hv
  obtain ⟨rfl, hsz, hP, hK, hD0, hN, hT⟩ := hv
  have hx := B.exec
  have hb := B.bytes
  have hr := B.returns
  have hts : ∀ w ∈ tblG, w.before _ s = true := fun w h => atoms_spec (ws := (wsG yX12_late cX12_late 4 (some .int))) B.pre w (List.mem_cons_of_mem _ h)
  have hown : s.vm.findClass RX12 = some m.cls := findClass_of_methodNamed B.named
  have hlocks := B.notSynchronized
  subst hsz
  have hD := hD0.self (sz := s.heap.size)
  generalize hAe : va_A [(a0, .inr (12, [.int 0, .int 0, .ref a1, .ref a2, .ref a3, .ref a4, .int 0, .ref a5, .int 0, .int 0, .int 0, .int 0, .long 0, .int (-1), .int 0, .int 0, .ref a6, .int 0, .ref a7, .ref a8, .int 0, .ref a9, .ref a10, .int 0, .int 0, .ref a11, .ref a12, .int 0, .ref a13, .ref a14, .int 0, .long 0, .long 0, .int 0, .int 0, .int 0, .int 0, .int 0, .ref a15, .int 0, .int 0, .ref a16, .int 0, .ref a17, .ref a18, .ref a19, .int 0, .ref a20, .ref a21, .long 0, .ref a22, .int 0])), (a2, .inl (G.2 0, 5740, .inl (upd (upd (upd (fun _ => 0) 3 (-1)) 4 1000) 6 (-1))))] s.heap.size = A at hD hT ⊢
  have hA : ∀ q : Nat, s.heap.size ≤ q → A q := fun q h => by rw [← hAe]; exact Or.inr h
  have hS : va_S A s.heap s.heap [] := va_S.rf
  have hP : va_P G.1 vwCl [(a0, .inr (12, [.int 0, .int 0, .ref a1, .ref a2, .ref a3, .ref a4, .int 0, .ref a5, .int 0, .int 0, .int 0, .int 0, .long 0, .int (-1), .int 0, .int 0, .ref a6, .int 0, .ref a7, .ref a8, .int 0, .ref a9, .ref a10, .int 0, .int 0, .ref a11, .ref a12, .int 0, .ref a13, .ref a14, .int 0, .long 0, .long 0, .int 0, .int 0, .int 0, .int 0, .int 0, .ref a15, .int 0, .int 0, .ref a16, .int 0, .ref a17, .ref a18, .ref a19, .int 0, .ref a20, .ref a21, .long 0, .ref a22, .int 0])), (a2, .inl (G.2 0, 5740, .inl (upd (upd (upd (fun _ => 0) 3 (-1)) 4 1000) 6 (-1))))] s.heap := hP
  have hl := lv_entry ([.ref a0, .int n0, .int n1, .int n2]) (n := 4) (Nat.le_of_ble_eq_true rfl)
  rw [lg_entry_eq]
  generalize (lg_sl ([.ref a0, .int n0, .int n1, .int n2]) ++ List.replicate (4 - (lg_sl ([.ref a0, .int n0, .int n1, .int n2])).length) Slot.unset).toArray = ls at hl ⊢
  have hl : lv_has ls 4 [(0, .ref a0), (1, .int n0), (2, .int n1), (3, .int n2)] := hl
  refine lv_aload_n hx hb dX12_late_0 rfl (lv_at hl 0 rfl) ?_
  refine lv_iconst (v := 0) hx hb dX12_late_1 (by decide) ?_
  refine va_put (D := G.1) (ci := 12) (v := .int 0) (ty := .int) (C := RX12) (T := TX12) (N := 52) hx hb hts inG_X12 tyX12 tyX12_ok nmX12 hown hK hP hD hS 0 rfl rfl 0 (by decide) (hts _ fl_X12_107) (fun _ h9 => h9) rfl (by decide +kernel) rfl rfl (Nat.le_of_ble_eq_true rfl) dX12_late_2 (fun H locs hP hD hS => ?_)
  have hP : va_P G.1 vwCl [(a0, .inr (12, [.int 0, .int 0, .ref a1, .ref a2, .ref a3, .ref a4, .int 0, .ref a5, .int 0, .int 0, .int 0, .int 0, .long 0, .int (-1), .int 0, .int 0, .ref a6, .int 0, .ref a7, .ref a8, .int 0, .ref a9, .ref a10, .int 0, .int 0, .ref a11, .ref a12, .int 0, .ref a13, .ref a14, .int 0, .long 0, .long 0, .int 0, .int 0, .int 0, .int 0, .int 0, .ref a15, .int 0, .int 0, .ref a16, .int 0, .ref a17, .ref a18, .ref a19, .int 0, .ref a20, .ref a21, .long 0, .ref a22, .int 0])), (a2, .inl (G.2 0, 5740, .inl (upd (upd (upd (fun _ => 0) 3 (-1)) 4 1000) 6 (-1))))] H := hP
  have hD : va_D A [(a0, .inr (12, [.int 0, .int 0, .ref a1, .ref a2, .ref a3, .ref a4, .int 0, .ref a5, .int 0, .int 0, .int 0, .int 0, .long 0, .int (-1), .int 0, .int 0, .ref a6, .int 0, .ref a7, .ref a8, .int 0, .ref a9, .ref a10, .int 0, .int 0, .ref a11, .ref a12, .int 0, .ref a13, .ref a14, .int 0, .long 0, .long 0, .int 0, .int 0, .int 0, .int 0, .int 0, .ref a15, .int 0, .int 0, .ref a16, .int 0, .ref a17, .ref a18, .ref a19, .int 0, .ref a20, .ref a21, .long 0, .ref a22, .int 0])), (a2, .inl (G.2 0, 5740, .inl (upd (upd (upd (fun _ => 0) 3 (-1)) 4 1000) 6 (-1))))] := hD
  refine lv_aload_n hx hb dX12_late_5 rfl (lv_at hl 0 rfl) ?_
  refine lv_iload_n hx hb dX12_late_6 rfl (lv_at hl 1 rfl) ?_
  have hPc := hP.sub (ws' := [(a0, .inr (12, [.int 0, .int 0, .ref a1, .ref a2, .ref a3, .ref a4, .int 0, .ref a5, .int 0, .int 0, .int 0, .int 0, .long 0, .int (-1), .int 0, .int 0, .ref a6, .int 0, .ref a7, .ref a8, .int 0, .ref a9, .ref a10, .int 0, .int 0, .ref a11, .ref a12, .int 0, .ref a13, .ref a14, .int 0, .long 0, .long 0, .int 0, .int 0, .int 0, .int 0, .int 0, .ref a15, .int 0, .int 0, .ref a16, .int 0, .ref a17, .ref a18, .ref a19, .int 0, .ref a20, .ref a21, .long 0, .ref a22, .int 0])), (a2, .inl (G.2 0, 5740, .inl (upd (upd (upd (fun _ => 0) 3 (-1)) 4 1000) 6 (-1))))]) [0, 1] rfl
  have hDc := hD.sub (ws' := [(a0, .inr (12, [.int 0, .int 0, .ref a1, .ref a2, .ref a3, .ref a4, .int 0, .ref a5, .int 0, .int 0, .int 0, .int 0, .long 0, .int (-1), .int 0, .int 0, .ref a6, .int 0, .ref a7, .ref a8, .int 0, .ref a9, .ref a10, .int 0, .int 0, .ref a11, .ref a12, .int 0, .ref a13, .ref a14, .int 0, .long 0, .long 0, .int 0, .int 0, .int 0, .int 0, .int 0, .ref a15, .int 0, .int 0, .ref a16, .int 0, .ref a17, .ref a18, .ref a19, .int 0, .ref a20, .ref a21, .long 0, .ref a22, .int 0])), (a2, .inl (G.2 0, 5740, .inl (upd (upd (upd (fun _ => 0) 3 (-1)) 4 1000) 6 (-1))))]) [0, 1] (by decide) rfl
  have hFc := va_free (wc := [(a0, .inr (12, [.int 0, .int 0, .ref a1, .ref a2, .ref a3, .ref a4, .int 0, .ref a5, .int 0, .int 0, .int 0, .int 0, .long 0, .int (-1), .int 0, .int 0, .ref a6, .int 0, .ref a7, .ref a8, .int 0, .ref a9, .ref a10, .int 0, .int 0, .ref a11, .ref a12, .int 0, .ref a13, .ref a14, .int 0, .long 0, .long 0, .int 0, .int 0, .int 0, .int 0, .int 0, .ref a15, .int 0, .int 0, .ref a16, .int 0, .ref a17, .ref a18, .ref a19, .int 0, .ref a20, .ref a21, .long 0, .ref a22, .int 0])), (a2, .inl (G.2 0, 5740, .inl (upd (upd (upd (fun _ => 0) 3 (-1)) 4 1000) 6 (-1))))]) hD hS hA [0, 1] rfl
  refine va_calli (va_runV (As := [.int n0]) (rest := []) ⟨hx, hb, hml, hown, hts⟩ (kX12_isBody l G a0 a1 a2 a3 a4 a5 a6 a7 a8 a9 a10 a11 a12 a13 a14 a15 a16 a17 a18 a19 a20 a21 a22 H.size n0) (cwV 1 hts gV_X12_180 rfl rfl rfl hv_X12_isBody ⟨Nat.le_of_ble_eq_true rfl, Nat.le_of_ble_eq_true rfl⟩) (g5_preV hPc hK hDc hN hT hS hFc (ci := 12) (q0 := 0) rfl rfl) rfl rfl hl.1 rfl (lv_room (Nat.le_of_ble_eq_true rfl)) dX12_late_7 ⟨Nat.le_of_ble_eq_true rfl, Nat.le_of_ble_eq_true rfl⟩) hS (fun q _ h => hFc q h) hFc (fun r u t H1 locs ht hvm hw hB hz1 hk1 hS => ?_)
  obtain ⟨hP1, hD1⟩ := hB
  rw [ht] at hP1
  obtain ⟨i_1, rfl, rfl⟩ := hw
  obtain ⟨hP, hD⟩ := va_join (wr := []) (w1 := [(a0, .inr (12, [.int 0, .int 0, .ref a1, .ref a2, .ref a3, .ref a4, .int 0, .ref a5, .int 0, .int 0, .int 0, .int 0, .long 0, .int (-1), .int 0, .int 0, .ref a6, .int 0, .ref a7, .ref a8, .int 0, .ref a9, .ref a10, .int 0, .int 0, .ref a11, .ref a12, .int 0, .ref a13, .ref a14, .int 0, .long 0, .long 0, .int 0, .int 0, .int 0, .int 0, .int 0, .ref a15, .int 0, .int 0, .ref a16, .int 0, .ref a17, .ref a18, .ref a19, .int 0, .ref a20, .ref a21, .long 0, .ref a22, .int 0])), (a2, .inl (G.2 0, 5740, .inl (upd (upd (upd (fun _ => 0) 3 (-1)) 4 1000) 6 (-1))))]) hP hD [0, 1] [] rfl rfl (by decide) (by decide) hk1 hFc hP1 hD1
  generalize H1 = H at hP hS ⊢
  have hP : va_P G.1 vwCl [(a0, .inr (12, [.int 0, .int 0, .ref a1, .ref a2, .ref a3, .ref a4, .int 0, .ref a5, .int 0, .int 0, .int 0, .int 0, .long 0, .int (-1), .int 0, .int 0, .ref a6, .int 0, .ref a7, .ref a8, .int 0, .ref a9, .ref a10, .int 0, .int 0, .ref a11, .ref a12, .int 0, .ref a13, .ref a14, .int 0, .long 0, .long 0, .int 0, .int 0, .int 0, .int 0, .int 0, .ref a15, .int 0, .int 0, .ref a16, .int 0, .ref a17, .ref a18, .ref a19, .int 0, .ref a20, .ref a21, .long 0, .ref a22, .int 0])), (a2, .inl (G.2 0, 5740, .inl (upd (upd (upd (fun _ => 0) 3 (-1)) 4 1000) 6 (-1))))] H := hP
  have hD : va_D A [(a0, .inr (12, [.int 0, .int 0, .ref a1, .ref a2, .ref a3, .ref a4, .int 0, .ref a5, .int 0, .int 0, .int 0, .int 0, .long 0, .int (-1), .int 0, .int 0, .ref a6, .int 0, .ref a7, .ref a8, .int 0, .ref a9, .ref a10, .int 0, .int 0, .ref a11, .ref a12, .int 0, .ref a13, .ref a14, .int 0, .long 0, .long 0, .int 0, .int 0, .int 0, .int 0, .int 0, .ref a15, .int 0, .int 0, .ref a16, .int 0, .ref a17, .ref a18, .ref a19, .int 0, .ref a20, .ref a21, .long 0, .ref a22, .int 0])), (a2, .inl (G.2 0, 5740, .inl (upd (upd (upd (fun _ => 0) 3 (-1)) 4 1000) 6 (-1))))] := hD
  refine lv_if_eq (tgt := 38) hx hb dX12_late_10 (by decide) (fun c_2 => ?_) (fun c_2 => ?_)
  ·
    refine lv_iconst (v := (-1)) hx hb dX12_late_38 (by decide) ?_
    have hP := hP.sub (ws' := []) [] rfl
    have hD := hD.sub (ws' := []) [] (by decide) rfl
    exact W.iret (v := (-1)) hx hb hr (fun t ht hW => ⟨⟨(-1), [], rfl, ⟨i_1, rfl, rfl⟩, by rw [ht]; exact hP, hD⟩, hS.F ht⟩) hS.2.2 dX12_late_39
  ·
    exact absurd c_2 (by decide)
theorem dX12_first_0 : decode cX12_first 0 = .ok (.aload_n 0, 1) := by decide +kernel
theorem dX12_first_1 : decode cX12_first 1 = .ok (.iconst 0, 1) := by decide +kernel
theorem dX12_first_2 : decode cX12_first 2 = .ok (.putfield 107, 3) := by decide +kernel
theorem dX12_first_5 : decode cX12_first 5 = .ok (.aload_n 0, 1) := by decide +kernel
theorem dX12_first_6 : decode cX12_first 6 = .ok (.iload_n 1, 1) := by decide +kernel
theorem dX12_first_7 : decode cX12_first 7 = .ok (.invokevirtual 180, 3) := by decide +kernel
theorem dX12_first_10 : decode cX12_first 10 = .ok (.ifCond .eq 15, 3) := by decide +kernel
theorem dX12_first_13 : decode cX12_first 13 = .ok (.iload_n 2, 1) := by decide +kernel
theorem dX12_first_14 : decode cX12_first 14 = .ok (.i2l, 1) := by decide +kernel
theorem dX12_first_15 : decode cX12_first 15 = .ok (.lconst 0, 1) := by decide +kernel
theorem dX12_first_16 : decode cX12_first 16 = .ok (.ldc2_w 411, 3) := by decide +kernel
theorem dX12_first_19 : decode cX12_first 19 = .ok (.invokestatic 121, 3) := by decide +kernel
theorem dX12_first_22 : decode cX12_first 22 = .ok (.ifCond .ne 5, 3) := by decide +kernel
theorem dX12_first_25 : decode cX12_first 25 = .ok (.iconst (-1), 1) := by decide +kernel
theorem dX12_first_26 : decode cX12_first 26 = .ok (.ireturn, 1) := by decide +kernel
theorem dX12_first_27 : decode cX12_first 27 = .ok (.iconst 0, 1) := by decide +kernel
theorem dX12_first_28 : decode cX12_first 28 = .ok (.istore_n 3, 1) := by decide +kernel
theorem dX12_first_29 : decode cX12_first 29 = .ok (.iload_n 3, 1) := by decide +kernel
theorem dX12_first_30 : decode cX12_first 30 = .ok (.bipush 24, 2) := by decide +kernel
theorem dX12_first_32 : decode cX12_first 32 = .ok (.if_icmp .ge 76, 3) := by decide +kernel
theorem dX12_first_35 : decode cX12_first 35 = .ok (.iconst 0, 1) := by decide +kernel
theorem dX12_first_36 : decode cX12_first 36 = .ok (.istore 4, 2) := by decide +kernel
theorem dX12_first_38 : decode cX12_first 38 = .ok (.iload 4, 2) := by decide +kernel
theorem dX12_first_40 : decode cX12_first 40 = .ok (.aload_n 0, 1) := by decide +kernel
theorem dX12_first_41 : decode cX12_first 41 = .ok (.getfield 13, 3) := by decide +kernel
theorem dX12_first_44 : decode cX12_first 44 = .ok (.iconst 1, 1) := by decide +kernel
theorem dX12_first_45 : decode cX12_first 45 = .ok (.iaload, 1) := by decide +kernel
theorem dX12_first_46 : decode cX12_first 46 = .ok (.if_icmp .ge 56, 3) := by decide +kernel
theorem dX12_first_49 : decode cX12_first 49 = .ok (.iload 4, 2) := by decide +kernel
theorem dX12_first_51 : decode cX12_first 51 = .ok (.iload_n 1, 1) := by decide +kernel
theorem dX12_first_52 : decode cX12_first 52 = .ok (.if_icmp .ne 7, 3) := by decide +kernel
theorem dX12_first_55 : decode cX12_first 55 = .ok (.iconst (-1), 1) := by decide +kernel
theorem dX12_first_56 : decode cX12_first 56 = .ok (.goto 11, 3) := by decide +kernel
theorem dX12_first_59 : decode cX12_first 59 = .ok (.aload_n 0, 1) := by decide +kernel
theorem dX12_first_60 : decode cX12_first 60 = .ok (.iload 4, 2) := by decide +kernel
theorem dX12_first_62 : decode cX12_first 62 = .ok (.iload_n 1, 1) := by decide +kernel
theorem dX12_first_63 : decode cX12_first 63 = .ok (.iload_n 3, 1) := by decide +kernel
theorem dX12_first_64 : decode cX12_first 64 = .ok (.invokevirtual 407, 3) := by decide +kernel
theorem dX12_first_67 : decode cX12_first 67 = .ok (.istore 5, 2) := by decide +kernel
theorem dX12_first_69 : decode cX12_first 69 = .ok (.iload 5, 2) := by decide +kernel
theorem dX12_first_71 : decode cX12_first 71 = .ok (.iconst (-1), 1) := by decide +kernel
theorem dX12_first_72 : decode cX12_first 72 = .ok (.if_icmp .eq 24, 3) := by decide +kernel
theorem dX12_first_75 : decode cX12_first 75 = .ok (.iload_n 2, 1) := by decide +kernel
theorem dX12_first_76 : decode cX12_first 76 = .ok (.ifCond .ne 7, 3) := by decide +kernel
theorem dX12_first_79 : decode cX12_first 79 = .ok (.iload_n 3, 1) := by decide +kernel
theorem dX12_first_80 : decode cX12_first 80 = .ok (.goto 15, 3) := by decide +kernel
theorem dX12_first_83 : decode cX12_first 83 = .ok (.iload_n 2, 1) := by decide +kernel
theorem dX12_first_84 : decode cX12_first 84 = .ok (.iconst 1, 1) := by decide +kernel
theorem dX12_first_85 : decode cX12_first 85 = .ok (.if_icmp .ne 8, 3) := by decide +kernel
theorem dX12_first_88 : decode cX12_first 88 = .ok (.iload 4, 2) := by decide +kernel
theorem dX12_first_90 : decode cX12_first 90 = .ok (.goto 5, 3) := by decide +kernel
theorem dX12_first_93 : decode cX12_first 93 = .ok (.iload 5, 2) := by decide +kernel
theorem dX12_first_95 : decode cX12_first 95 = .ok (.ireturn, 1) := by decide +kernel
theorem dX12_first_96 : decode cX12_first 96 = .ok (.iinc 4 1, 3) := by decide +kernel
theorem dX12_first_99 : decode cX12_first 99 = .ok (.goto (-61), 3) := by decide +kernel
theorem dX12_first_102 : decode cX12_first 102 = .ok (.iinc 3 1, 3) := by decide +kernel
theorem dX12_first_105 : decode cX12_first 105 = .ok (.goto (-76), 3) := by decide +kernel
theorem dX12_first_108 : decode cX12_first 108 = .ok (.iconst (-1), 1) := by decide +kernel
theorem dX12_first_109 : decode cX12_first 109 = .ok (.ireturn, 1) := by decide +kernel
set_option maxHeartbeats 4000000 in
set_option maxRecDepth 100000 in
theorem kX12_first (l : Launch) (G : g5_G) (a0 a1 a2 a3 a4 a5 a6 a7 a8 a9 a10 a11 a12 a13 a14 a15 a16 a17 a18 a19 a20 a21 a22 : Nat) (sz : Nat) (n0 : Int32) (n1 : Int32) : Met l yX12_first (wsG yX12_first cX12_first 6 (some .int)) ({ frames := 2, cells := 0, slots := 0, locals := 46 }) (va_Pc [.ref a0, .int n0, .int n1] (g5_P G [(a0, .inr (12, [.int 0, .int 0, .ref a1, .ref a2, .ref a3, .ref a4, .int 0, .ref a5, .int 0, .int 0, .int 0, .int 0, .long 0, .int (-1), .int 0, .int 0, .ref a6, .int 0, .ref a7, .ref a8, .int 0, .ref a9, .ref a10, .int 0, .int 0, .ref a11, .ref a12, .int 0, .ref a13, .ref a14, .int 0, .long 0, .long 0, .int 0, .int 0, .int 0, .int 0, .int 0, .ref a15, .int 0, .int 0, .ref a16, .int 0, .ref a17, .ref a18, .ref a19, .int 0, .ref a20, .ref a21, .long 0, .ref a22, .int 0])), (a2, .inl (G.2 0, 5740, .inl (upd (upd (upd (fun _ => 0) 3 (-1)) 4 1000) 6 (-1))))] sz)) (va_Qi (fun (r : Int32) (u : va_W) => ((n0.toInt < 0 ∨ (-1) < n0.toInt) ∧ (r = (-1)) ∧ (u = []))) (g5_B G (va_A [(a0, .inr (12, [.int 0, .int 0, .ref a1, .ref a2, .ref a3, .ref a4, .int 0, .ref a5, .int 0, .int 0, .int 0, .int 0, .long 0, .int (-1), .int 0, .int 0, .ref a6, .int 0, .ref a7, .ref a8, .int 0, .ref a9, .ref a10, .int 0, .int 0, .ref a11, .ref a12, .int 0, .ref a13, .ref a14, .int 0, .long 0, .long 0, .int 0, .int 0, .int 0, .int 0, .int 0, .ref a15, .int 0, .int 0, .ref a16, .int 0, .ref a17, .ref a18, .ref a19, .int 0, .ref a20, .ref a21, .long 0, .ref a22, .int 0])), (a2, .inl (G.2 0, 5740, .inl (upd (upd (upd (fun _ => 0) 3 (-1)) 4 1000) 6 (-1))))] sz)) (va_A [(a0, .inr (12, [.int 0, .int 0, .ref a1, .ref a2, .ref a3, .ref a4, .int 0, .ref a5, .int 0, .int 0, .int 0, .int 0, .long 0, .int (-1), .int 0, .int 0, .ref a6, .int 0, .ref a7, .ref a8, .int 0, .ref a9, .ref a10, .int 0, .int 0, .ref a11, .ref a12, .int 0, .ref a13, .ref a14, .int 0, .long 0, .long 0, .int 0, .int 0, .int 0, .int 0, .int 0, .ref a15, .int 0, .int 0, .ref a16, .int 0, .ref a17, .ref a18, .ref a19, .int 0, .ref a20, .ref a21, .long 0, .ref a22, .int 0])), (a2, .inl (G.2 0, 5740, .inl (upd (upd (upd (fun _ => 0) 3 (-1)) 4 1000) 6 (-1))))] sz)) 0 0 (va_A [(a0, .inr (12, [.int 0, .int 0, .ref a1, .ref a2, .ref a3, .ref a4, .int 0, .ref a5, .int 0, .int 0, .int 0, .int 0, .long 0, .int (-1), .int 0, .int 0, .ref a6, .int 0, .ref a7, .ref a8, .int 0, .ref a9, .ref a10, .int 0, .int 0, .ref a11, .ref a12, .int 0, .ref a13, .ref a14, .int 0, .long 0, .long 0, .int 0, .int 0, .int 0, .int 0, .int 0, .ref a15, .int 0, .int 0, .ref a16, .int 0, .ref a17, .ref a18, .ref a19, .int 0, .ref a20, .ref a21, .long 0, .ref a22, .int 0])), (a2, .inl (G.2 0, 5740, .inl (upd (upd (upd (fun _ => 0) 3 (-1)) 4 1000) 6 (-1))))] sz) := by
  refine Met.ofW (cc := cX12_first) (maxL := 6) (ret := (some .int)) (by decide) rfl ?_
  intro p e s m args below meth c s₁ B hml hv
  obtain ⟨rfl, hsz, hP, hK, hD0, hN, hT⟩ := hv
  have hx := B.exec
  have hb := B.bytes
  have hr := B.returns
  have hts : ∀ w ∈ tblG, w.before _ s = true := fun w h => atoms_spec (ws := (wsG yX12_first cX12_first 6 (some .int))) B.pre w (List.mem_cons_of_mem _ h)
  have hown : s.vm.findClass RX12 = some m.cls := findClass_of_methodNamed B.named
  have hlocks := B.notSynchronized
  subst hsz
  have hD := hD0.self (sz := s.heap.size)
  generalize hAe : va_A [(a0, .inr (12, [.int 0, .int 0, .ref a1, .ref a2, .ref a3, .ref a4, .int 0, .ref a5, .int 0, .int 0, .int 0, .int 0, .long 0, .int (-1), .int 0, .int 0, .ref a6, .int 0, .ref a7, .ref a8, .int 0, .ref a9, .ref a10, .int 0, .int 0, .ref a11, .ref a12, .int 0, .ref a13, .ref a14, .int 0, .long 0, .long 0, .int 0, .int 0, .int 0, .int 0, .int 0, .ref a15, .int 0, .int 0, .ref a16, .int 0, .ref a17, .ref a18, .ref a19, .int 0, .ref a20, .ref a21, .long 0, .ref a22, .int 0])), (a2, .inl (G.2 0, 5740, .inl (upd (upd (upd (fun _ => 0) 3 (-1)) 4 1000) 6 (-1))))] s.heap.size = A at hD hT ⊢
  have hA : ∀ q : Nat, s.heap.size ≤ q → A q := fun q h => by rw [← hAe]; exact Or.inr h
  have hS : va_S A s.heap s.heap [] := va_S.rf
  have hP : va_P G.1 vwCl [(a0, .inr (12, [.int 0, .int 0, .ref a1, .ref a2, .ref a3, .ref a4, .int 0, .ref a5, .int 0, .int 0, .int 0, .int 0, .long 0, .int (-1), .int 0, .int 0, .ref a6, .int 0, .ref a7, .ref a8, .int 0, .ref a9, .ref a10, .int 0, .int 0, .ref a11, .ref a12, .int 0, .ref a13, .ref a14, .int 0, .long 0, .long 0, .int 0, .int 0, .int 0, .int 0, .int 0, .ref a15, .int 0, .int 0, .ref a16, .int 0, .ref a17, .ref a18, .ref a19, .int 0, .ref a20, .ref a21, .long 0, .ref a22, .int 0])), (a2, .inl (G.2 0, 5740, .inl (upd (upd (upd (fun _ => 0) 3 (-1)) 4 1000) 6 (-1))))] s.heap := hP
  have hl := lv_entry ([.ref a0, .int n0, .int n1]) (n := 6) (Nat.le_of_ble_eq_true rfl)
  rw [lg_entry_eq]
  generalize (lg_sl ([.ref a0, .int n0, .int n1]) ++ List.replicate (6 - (lg_sl ([.ref a0, .int n0, .int n1])).length) Slot.unset).toArray = ls at hl ⊢
  have hl : lv_has ls 6 [(0, .ref a0), (1, .int n0), (2, .int n1)] := hl
  refine lv_aload_n hx hb dX12_first_0 rfl (lv_at hl 0 rfl) ?_
  refine lv_iconst (v := 0) hx hb dX12_first_1 (by decide) ?_
  refine va_put (D := G.1) (ci := 12) (v := .int 0) (ty := .int) (C := RX12) (T := TX12) (N := 52) hx hb hts inG_X12 tyX12 tyX12_ok nmX12 hown hK hP hD hS 0 rfl rfl 0 (by decide) (hts _ fl_X12_107) (fun _ h9 => h9) rfl (by decide +kernel) rfl rfl (Nat.le_of_ble_eq_true rfl) dX12_first_2 (fun H locs hP hD hS => ?_)
  have hP : va_P G.1 vwCl [(a0, .inr (12, [.int 0, .int 0, .ref a1, .ref a2, .ref a3, .ref a4, .int 0, .ref a5, .int 0, .int 0, .int 0, .int 0, .long 0, .int (-1), .int 0, .int 0, .ref a6, .int 0, .ref a7, .ref a8, .int 0, .ref a9, .ref a10, .int 0, .int 0, .ref a11, .ref a12, .int 0, .ref a13, .ref a14, .int 0, .long 0, .long 0, .int 0, .int 0, .int 0, .int 0, .int 0, .ref a15, .int 0, .int 0, .ref a16, .int 0, .ref a17, .ref a18, .ref a19, .int 0, .ref a20, .ref a21, .long 0, .ref a22, .int 0])), (a2, .inl (G.2 0, 5740, .inl (upd (upd (upd (fun _ => 0) 3 (-1)) 4 1000) 6 (-1))))] H := hP
  have hD : va_D A [(a0, .inr (12, [.int 0, .int 0, .ref a1, .ref a2, .ref a3, .ref a4, .int 0, .ref a5, .int 0, .int 0, .int 0, .int 0, .long 0, .int (-1), .int 0, .int 0, .ref a6, .int 0, .ref a7, .ref a8, .int 0, .ref a9, .ref a10, .int 0, .int 0, .ref a11, .ref a12, .int 0, .ref a13, .ref a14, .int 0, .long 0, .long 0, .int 0, .int 0, .int 0, .int 0, .int 0, .ref a15, .int 0, .int 0, .ref a16, .int 0, .ref a17, .ref a18, .ref a19, .int 0, .ref a20, .ref a21, .long 0, .ref a22, .int 0])), (a2, .inl (G.2 0, 5740, .inl (upd (upd (upd (fun _ => 0) 3 (-1)) 4 1000) 6 (-1))))] := hD
  refine lv_aload_n hx hb dX12_first_5 rfl (lv_at hl 0 rfl) ?_
  refine lv_iload_n hx hb dX12_first_6 rfl (lv_at hl 1 rfl) ?_
  have hPc := hP.sub (ws' := [(a0, .inr (12, [.int 0, .int 0, .ref a1, .ref a2, .ref a3, .ref a4, .int 0, .ref a5, .int 0, .int 0, .int 0, .int 0, .long 0, .int (-1), .int 0, .int 0, .ref a6, .int 0, .ref a7, .ref a8, .int 0, .ref a9, .ref a10, .int 0, .int 0, .ref a11, .ref a12, .int 0, .ref a13, .ref a14, .int 0, .long 0, .long 0, .int 0, .int 0, .int 0, .int 0, .int 0, .ref a15, .int 0, .int 0, .ref a16, .int 0, .ref a17, .ref a18, .ref a19, .int 0, .ref a20, .ref a21, .long 0, .ref a22, .int 0])), (a2, .inl (G.2 0, 5740, .inl (upd (upd (upd (fun _ => 0) 3 (-1)) 4 1000) 6 (-1))))]) [0, 1] rfl
  have hDc := hD.sub (ws' := [(a0, .inr (12, [.int 0, .int 0, .ref a1, .ref a2, .ref a3, .ref a4, .int 0, .ref a5, .int 0, .int 0, .int 0, .int 0, .long 0, .int (-1), .int 0, .int 0, .ref a6, .int 0, .ref a7, .ref a8, .int 0, .ref a9, .ref a10, .int 0, .int 0, .ref a11, .ref a12, .int 0, .ref a13, .ref a14, .int 0, .long 0, .long 0, .int 0, .int 0, .int 0, .int 0, .int 0, .ref a15, .int 0, .int 0, .ref a16, .int 0, .ref a17, .ref a18, .ref a19, .int 0, .ref a20, .ref a21, .long 0, .ref a22, .int 0])), (a2, .inl (G.2 0, 5740, .inl (upd (upd (upd (fun _ => 0) 3 (-1)) 4 1000) 6 (-1))))]) [0, 1] (by decide) rfl
  have hFc := va_free (wc := [(a0, .inr (12, [.int 0, .int 0, .ref a1, .ref a2, .ref a3, .ref a4, .int 0, .ref a5, .int 0, .int 0, .int 0, .int 0, .long 0, .int (-1), .int 0, .int 0, .ref a6, .int 0, .ref a7, .ref a8, .int 0, .ref a9, .ref a10, .int 0, .int 0, .ref a11, .ref a12, .int 0, .ref a13, .ref a14, .int 0, .long 0, .long 0, .int 0, .int 0, .int 0, .int 0, .int 0, .ref a15, .int 0, .int 0, .ref a16, .int 0, .ref a17, .ref a18, .ref a19, .int 0, .ref a20, .ref a21, .long 0, .ref a22, .int 0])), (a2, .inl (G.2 0, 5740, .inl (upd (upd (upd (fun _ => 0) 3 (-1)) 4 1000) 6 (-1))))]) hD hS hA [0, 1] rfl
  refine va_calli (va_runV (As := [.int n0]) (rest := []) ⟨hx, hb, hml, hown, hts⟩ (kX12_isBody l G a0 a1 a2 a3 a4 a5 a6 a7 a8 a9 a10 a11 a12 a13 a14 a15 a16 a17 a18 a19 a20 a21 a22 H.size n0) (cwV 1 hts gV_X12_180 rfl rfl rfl hv_X12_isBody ⟨Nat.le_of_ble_eq_true rfl, Nat.le_of_ble_eq_true rfl⟩) (g5_preV hPc hK hDc hN hT hS hFc (ci := 12) (q0 := 0) rfl rfl) rfl rfl hl.1 rfl (lv_room (Nat.le_of_ble_eq_true rfl)) dX12_first_7 ⟨Nat.le_of_ble_eq_true rfl, Nat.le_of_ble_eq_true rfl⟩) hS (fun q _ h => hFc q h) hFc (fun r u t H1 locs ht hvm hw hB hz1 hk1 hS => ?_)
  obtain ⟨hP1, hD1⟩ := hB
  rw [ht] at hP1
  obtain ⟨i_1, rfl, rfl⟩ := hw
  obtain ⟨hP, hD⟩ := va_join (wr := []) (w1 := [(a0, .inr (12, [.int 0, .int 0, .ref a1, .ref a2, .ref a3, .ref a4, .int 0, .ref a5, .int 0, .int 0, .int 0, .int 0, .long 0, .int (-1), .int 0, .int 0, .ref a6, .int 0, .ref a7, .ref a8, .int 0, .ref a9, .ref a10, .int 0, .int 0, .ref a11, .ref a12, .int 0, .ref a13, .ref a14, .int 0, .long 0, .long 0, .int 0, .int 0, .int 0, .int 0, .int 0, .ref a15, .int 0, .int 0, .ref a16, .int 0, .ref a17, .ref a18, .ref a19, .int 0, .ref a20, .ref a21, .long 0, .ref a22, .int 0])), (a2, .inl (G.2 0, 5740, .inl (upd (upd (upd (fun _ => 0) 3 (-1)) 4 1000) 6 (-1))))]) hP hD [0, 1] [] rfl rfl (by decide) (by decide) hk1 hFc hP1 hD1
  generalize H1 = H at hP hS ⊢
  have hP : va_P G.1 vwCl [(a0, .inr (12, [.int 0, .int 0, .ref a1, .ref a2, .ref a3, .ref a4, .int 0, .ref a5, .int 0, .int 0, .int 0, .int 0, .long 0, .int (-1), .int 0, .int 0, .ref a6, .int 0, .ref a7, .ref a8, .int 0, .ref a9, .ref a10, .int 0, .int 0, .ref a11, .ref a12, .int 0, .ref a13, .ref a14, .int 0, .long 0, .long 0, .int 0, .int 0, .int 0, .int 0, .int 0, .ref a15, .int 0, .int 0, .ref a16, .int 0, .ref a17, .ref a18, .ref a19, .int 0, .ref a20, .ref a21, .long 0, .ref a22, .int 0])), (a2, .inl (G.2 0, 5740, .inl (upd (upd (upd (fun _ => 0) 3 (-1)) 4 1000) 6 (-1))))] H := hP
  have hD : va_D A [(a0, .inr (12, [.int 0, .int 0, .ref a1, .ref a2, .ref a3, .ref a4, .int 0, .ref a5, .int 0, .int 0, .int 0, .int 0, .long 0, .int (-1), .int 0, .int 0, .ref a6, .int 0, .ref a7, .ref a8, .int 0, .ref a9, .ref a10, .int 0, .int 0, .ref a11, .ref a12, .int 0, .ref a13, .ref a14, .int 0, .long 0, .long 0, .int 0, .int 0, .int 0, .int 0, .int 0, .ref a15, .int 0, .int 0, .ref a16, .int 0, .ref a17, .ref a18, .ref a19, .int 0, .ref a20, .ref a21, .long 0, .ref a22, .int 0])), (a2, .inl (G.2 0, 5740, .inl (upd (upd (upd (fun _ => 0) 3 (-1)) 4 1000) 6 (-1))))] := hD
  refine lv_if_eq (tgt := 25) hx hb dX12_first_10 (by decide) (fun c_2 => ?_) (fun c_2 => ?_)
  ·
    refine lv_iconst (v := (-1)) hx hb dX12_first_25 (by decide) ?_
    have hP := hP.sub (ws' := []) [] rfl
    have hD := hD.sub (ws' := []) [] (by decide) rfl
    exact W.iret (v := (-1)) hx hb hr (fun t ht hW => ⟨⟨(-1), [], rfl, ⟨i_1, rfl, rfl⟩, by rw [ht]; exact hP, hD⟩, hS.F ht⟩) hS.2.2 dX12_first_26
  ·
    exact absurd c_2 (by decide)
theorem dX12_unseen_0 : decode cX12_unseen 0 = .ok (.aload_n 0, 1) := by decide +kernel
theorem dX12_unseen_1 : decode cX12_unseen 1 = .ok (.iconst 0, 1) := by decide +kernel
theorem dX12_unseen_2 : decode cX12_unseen 2 = .ok (.putfield 107, 3) := by decide +kernel
theorem dX12_unseen_5 : decode cX12_unseen 5 = .ok (.iload_n 1, 1) := by decide +kernel
theorem dX12_unseen_6 : decode cX12_unseen 6 = .ok (.invokestatic 138, 3) := by decide +kernel
theorem dX12_unseen_9 : decode cX12_unseen 9 = .ok (.ifCond .ne 5, 3) := by decide +kernel
theorem dX12_unseen_12 : decode cX12_unseen 12 = .ok (.iconst (-1), 1) := by decide +kernel
theorem dX12_unseen_13 : decode cX12_unseen 13 = .ok (.ireturn, 1) := by decide +kernel
theorem dX12_unseen_14 : decode cX12_unseen 14 = .ok (.aload_n 0, 1) := by decide +kernel
theorem dX12_unseen_15 : decode cX12_unseen 15 = .ok (.invokevirtual 419, 3) := by decide +kernel
theorem dX12_unseen_18 : decode cX12_unseen 18 = .ok (.iconst 0, 1) := by decide +kernel
theorem dX12_unseen_19 : decode cX12_unseen 19 = .ok (.istore_n 2, 1) := by decide +kernel
theorem dX12_unseen_20 : decode cX12_unseen 20 = .ok (.iconst 0, 1) := by decide +kernel
theorem dX12_unseen_21 : decode cX12_unseen 21 = .ok (.istore_n 3, 1) := by decide +kernel
theorem dX12_unseen_22 : decode cX12_unseen 22 = .ok (.iload_n 3, 1) := by decide +kernel
theorem dX12_unseen_23 : decode cX12_unseen 23 = .ok (.bipush 24, 2) := by decide +kernel
theorem dX12_unseen_25 : decode cX12_unseen 25 = .ok (.if_icmp .ge 31, 3) := by decide +kernel
theorem dX12_unseen_28 : decode cX12_unseen 28 = .ok (.iload_n 2, 1) := by decide +kernel
theorem dX12_unseen_29 : decode cX12_unseen 29 = .ok (.aload_n 0, 1) := by decide +kernel
theorem dX12_unseen_30 : decode cX12_unseen 30 = .ok (.getfield 85, 3) := by decide +kernel
theorem dX12_unseen_33 : decode cX12_unseen 33 = .ok (.bipush 64, 2) := by decide +kernel
theorem dX12_unseen_35 : decode cX12_unseen 35 = .ok (.iload_n 3, 1) := by decide +kernel
theorem dX12_unseen_36 : decode cX12_unseen 36 = .ok (.imul, 1) := by decide +kernel
theorem dX12_unseen_37 : decode cX12_unseen 37 = .ok (.iload_n 1, 1) := by decide +kernel
theorem dX12_unseen_38 : decode cX12_unseen 38 = .ok (.iadd, 1) := by decide +kernel
theorem dX12_unseen_39 : decode cX12_unseen 39 = .ok (.baload, 1) := by decide +kernel
theorem dX12_unseen_40 : decode cX12_unseen 40 = .ok (.ifCond .eq 7, 3) := by decide +kernel
theorem dX12_unseen_43 : decode cX12_unseen 43 = .ok (.iconst 0, 1) := by decide +kernel
theorem dX12_unseen_44 : decode cX12_unseen 44 = .ok (.goto 4, 3) := by decide +kernel
theorem dX12_unseen_47 : decode cX12_unseen 47 = .ok (.iconst 1, 1) := by decide +kernel
theorem dX12_unseen_48 : decode cX12_unseen 48 = .ok (.iadd, 1) := by decide +kernel
theorem dX12_unseen_49 : decode cX12_unseen 49 = .ok (.istore_n 2, 1) := by decide +kernel
theorem dX12_unseen_50 : decode cX12_unseen 50 = .ok (.iinc 3 1, 3) := by decide +kernel
theorem dX12_unseen_53 : decode cX12_unseen 53 = .ok (.goto (-31), 3) := by decide +kernel
theorem dX12_unseen_56 : decode cX12_unseen 56 = .ok (.iload_n 2, 1) := by decide +kernel
theorem dX12_unseen_57 : decode cX12_unseen 57 = .ok (.ireturn, 1) := by decide +kernel
