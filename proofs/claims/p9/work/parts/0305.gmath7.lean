/-! laws as references that lie elsewhere; what a face keeps -/
def g5_LA (f : Nat → Option Nat) (A : Nat → Prop) (U : State) : Prop := ∀ j v : Nat, j < 6 → f j = some v → va_O "LateGlass$Law" v A U U.heap
def g5_PL (G : g5_G) (f : Nat → Option Nat) (ws : va_W) (sz : Nat) (U : State) : Prop := g5_P G ws sz U ∧ g5_LA f (va_A ws sz) U
theorem g5_blindL {G : g5_G} {f : Nat → Option Nat} {ws : va_W} {sz : Nat} {av : List Value} : FrameBlind (va_Pc av (g5_PL G f ws sz)) := by
  intro a U g mk h
  obtain ⟨h0, h1, h2⟩ := h
  have z : va_Pc av (g5_P G ws sz) a (U.calling g mk a) := g5_blind a U g mk ⟨h0, h1⟩
  exact ⟨z.1, z.2, fun j v hj e => va_O.moved (u := U) (U := U.calling g mk a) (Vm.Alike.refl U.vm) (h2 j v hj e)⟩
theorem g5_preVL {G : g5_G} {f : Nat → Option Nat} {s : State} {H : Heap} {locs : List Loc} {A : Nat → Prop} {wc : va_W} {b : Nat} {As : List Value} {C : String} {T : u_T} {N ci q0 : Nat} {fs : List Value} (hP : va_P G.1 vwCl wc H) (hK : va_K G.1 vwCl (T5 G) s) (hD : va_D A wc) (hN : g5_N s) (hT : g5_S A s s.heap) (hS : va_S A s.heap H locs) (hF : ∀ q, va_A wc H.size q → A q) (hLA : g5_LA f A s) (he : wc[q0]? = some (b, .inr (ci, fs))) (hc : vwCl[ci]? = some (C, T, N)) : PreV s H C b (va_Pc (.ref b :: As) (g5_PL G f wc H.size)) As :=
  ⟨g5_blindL, va_recv hK hP hc he, fun U hU hW => ⟨rfl, ((g5_preV (As := As) hP hK hD hN hT hS hF he hc).2.2 U hU hW).2, fun j v hj e => by rw [hU]; exact (((hLA j v hj e).kept hS.2.1).narrow hF).moved hW.alike⟩⟩
theorem g_any {s : State} {H : Heap} {A : Nat → Prop} {v : Nat} (h : va_O "LateGlass$Law" v A s H) : va_Any "LateGlass$Law" s H v := by
  obtain ⟨cell, h1, h2, h3, -⟩ := h
  obtain ⟨kC, hkC, -⟩ := Vm.findClass_spec h3
  exact ⟨cell, h1, h2, ⟨kC, hkC⟩, fun comp hc => by cases h3.symm.trans hc; exact va_asg _ _⟩
theorem cp_law {f g : Nat → Option Nat} {k k' : Int32} {o : Option Nat} (ih : ∀ j : Nat, (j : Int) < k.toInt → f j = g j) (h0 : 0 ≤ k.toInt) (hk : k'.toInt = k.toInt + 1) (e : g k.toNatClampNeg = o) : ∀ j : Nat, (j : Int) < k'.toInt → va_up f k.toNatClampNeg o j = g j := by
  intro j hj
  have z := g5_clamp k
  unfold va_up
  by_cases q : j = k.toNatClampNeg
  · rw [if_pos q, q, e]
  · rw [if_neg q]; exact ih j (by omega)
