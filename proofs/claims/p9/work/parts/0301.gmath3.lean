/-- masks of at most s bits -/
def mOK (f : Nat → Int32) (s : Nat) : Prop := ∀ j : Nat, j < 1536 → 0 ≤ (f j).toInt ∧ (f j).toInt < ((2 ^ s : Nat) : Int)
theorem m_orN : ∀ s : Nat, s < 5 → ∀ x : Nat, x < 32 → x < 2 ^ (s + 1) → 0 ≤ (nI x ||| nI (2 ^ s)).toInt ∧ (nI x ||| nI (2 ^ s)).toInt < ((2 ^ (s + 1) : Nat) : Int) := by decide +kernel
theorem m_pow {s : Nat} (h : s < 5) : ((2 ^ (s + 1) : Nat) : Int) ≤ 32 := by
  have : ∀ k : Nat, k < 5 → ((2 ^ (k + 1) : Nat) : Int) ≤ 32 := by decide
  exact this s h
theorem m_or {f : Nat → Int32} {s : Nat} {b x : Int32} (hs : s < 5) (hb : b = nI (2 ^ s)) (h : mOK f (s + 1)) (hx : 0 ≤ x.toInt ∧ x.toInt ≤ 1535) : mOK (upd f x.toNatClampNeg (f x.toNatClampNeg ||| b)) (s + 1) := by
  intro j hj
  unfold upd
  by_cases e : j = x.toNatClampNeg
  · rw [if_pos e, hb]
    have k := h x.toNatClampNeg (by rw [g5_clamp]; omega)
    have p := m_pow hs
    have q := m_orN s hs (f x.toNatClampNeg).toInt.toNat (by omega) (by omega)
    rw [← g5_nI k.1] at q
    exact q
  · rw [if_neg e]; exact h j hj
theorem mOK_up {f : Nat → Int32} {s : Nat} (h : mOK f s) : mOK f (s + 1) := by
  intro j hj
  have k := h j hj
  have e : ((2 ^ s : Nat) : Int) ≤ ((2 ^ (s + 1) : Nat) : Int) := by rw [Nat.pow_succ]; omega
  omega
/-! the two static tables at a place that is not known -/
def g_hav : Nat → Int32
  | 0 => -1431655766
  | 1 => -858993460
  | 2 => -252645136
  | 3 => -16711936
  | _ => -65536
theorem g_hav_eq : ∀ j : Nat, g5_hav j = .int (g_hav j)
  | 0 => rfl
  | 1 => rfl
  | 2 => rfl
  | 3 => rfl
  | _ + 4 => rfl
def g_low : Nat → Int32
  | 0 => 0
  | 1 => 3
  | 2 => 4
  | 3 => 1
  | _ => 2
theorem g_low_eq : ∀ j : Nat, g5_low j = .int (g_low j)
  | 0 => rfl
  | 1 => rfl
  | 2 => rfl
  | 3 => rfl
  | _ + 4 => rfl
