theorem g_shlN (e : Nat) (h : e < 11) : 1 ≤ ((1 : Int32) <<< (nI e &&& 31)).toInt ∧ ((1 : Int32) <<< (nI e &&& 31)).toInt ≤ 1024 ∧ (e ≤ 8 → ((1 : Int32) <<< (nI e &&& 31)).toInt ≤ 256) := by
  have : ∀ k : Nat, k < 11 → 1 ≤ ((1 : Int32) <<< (nI k &&& 31)).toInt ∧ ((1 : Int32) <<< (nI k &&& 31)).toInt ≤ 1024 ∧ (k ≤ 8 → ((1 : Int32) <<< (nI k &&& 31)).toInt ≤ 256) := by decide +kernel
  exact this e h
theorem g_shl8 {e : Int32} (h0 : 0 ≤ e.toInt) (h1 : e.toInt ≤ 8) : 1 ≤ ((1 : Int32) <<< (e &&& 31)).toInt ∧ ((1 : Int32) <<< (e &&& 31)).toInt ≤ 256 := by
  have k := g_shlN e.toInt.toNat (by omega)
  rw [← g5_nI h0] at k
  exact ⟨k.1, k.2.2 (by omega)⟩
