/-! copies of rows; where a law's clauses start -/
theorem g_minI (x y : Int32) : (if y < x then y else x).toInt ≤ x.toInt ∧ (if y < x then y else x).toInt ≤ y.toInt ∧ ((if y < x then y else x).toInt = x.toInt ∨ (if y < x then y else x).toInt = y.toInt) := by
  by_cases h : y < x
  · rw [if_pos h]
    have := Int32.lt_iff_toInt_lt.mp h
    omega
  · rw [if_neg h]
    have : ¬ y.toInt < x.toInt := fun q => h (Int32.lt_iff_toInt_lt.mpr q)
    omega
theorem cpy_ok {f g : Nat → Int32} {n : Nat} {x : Int32} (h : (n : Int) ≤ x.toInt) : ∀ j : Nat, j < n → va_cpy f g 0 0 x.toNatClampNeg j = f j := by
  intro j hj
  have e := g5_clamp x
  unfold va_cpy
  rw [if_pos (by omega)]
  congr 1; omega
theorem g_find {G : g5_G} {s : State} (hK : va_K G.1 vwCl (T5 G) s) : s.vm.findClass "[I" = some (G.2 0) := by
  have h2 : s.vm.findClass ("[" ++ FieldType.int.toString) = some (G.2 0) := (hK.2 0 _ rfl).2
  have e : "[" ++ FieldType.int.toString = "[I" := by decide
  rw [e] at h2
  exact h2
theorem g_fitI {cA : ClassId} {n : Nat} {f : Nat → Int32} : ∀ (i : Nat) (v : Value), (vp_cell cA (n, .inl f)).slots[i]? = some v → fits .int v = true := fun i v h => va_fit (F := fun j => .int (f j)) (fun _ _ => rfl) i v h
/-- where clauses start: within the code -/
def STI (f : Nat → Int32) (n l : Int) : Prop := ∀ j : Nat, (j : Int) < n → 0 ≤ (f j).toInt ∧ (f j).toInt ≤ l
theorem sti_0 {f : Nat → Int32} {l : Int} : STI f (0 : Int32).toInt l := fun j h => absurd h (by have z : (0 : Int32).toInt = 0 := (by decide); omega)
theorem sti_set {f : Nat → Int32} {c x : Int32} {l m : Int} (h : STI f c.toInt l) (h0 : 0 ≤ c.toInt) (hx : 0 ≤ x.toInt ∧ x.toInt ≤ m) (hm : l ≤ m) : STI (upd f c.toNatClampNeg x) (c.toInt + 1) m := by
  intro j hj
  have e := g5_clamp c
  unfold upd
  by_cases q : j = c.toNatClampNeg
  · rw [if_pos q]; exact hx
  · rw [if_neg q]
    have z := h j (by omega)
    omega
theorem sti_at {f g : Nat → Int32} {n : Nat} {k l : Int} (h : STI f k l) (hn : (n : Int) ≤ k) (e : ∀ j : Nat, j < n → g j = f j) : ∀ j : Nat, j < n → 0 ≤ (g j).toInt ∧ (g j).toInt ≤ l := by
  intro j hj
  rw [e j hj]; exact h j (by omega)
theorem cdi_at {f g : Nat → Int32} {n : Nat} {l : Int} (h : CDI f l) (hn : (n : Int) ≤ l) (e : ∀ j : Nat, j < n → g j = f j) : ∀ j : Nat, j < n → (g j >>> (12 &&& 31)).toInt = 1 → (g j &&& 4095).toInt < 8 := by
  intro j hj
  rw [e j hj]; exact h j (by omega)
