/-! the thief's load: how many sightings that saw are taken -/
theorem sn_step {f : Nat → Int32} {n : Int} {k k' : Int32} (h0 : 0 ≤ k.toInt) (hk : k'.toInt = k.toInt + 1) : snS f n k'.toInt.toNat = snS f n k.toInt.toNat + (tget f n 4 k.toInt (3 : Int32).toInt).toInt := by
  have e1 : k'.toInt.toNat = k.toInt.toNat + 1 := by omega
  have e2 : ((k.toInt.toNat : Nat) : Int) = k.toInt := by omega
  rw [e1]
  show snS f n k.toInt.toNat + (tget f n 4 ((k.toInt.toNat : Nat) : Int) (3 : Int32).toInt).toInt = _
  rw [e2]
theorem sn_mono {f : Nat → Int32} {n : Int} (he : ∀ r : Int, 0 ≤ r → r < n → 0 ≤ (tget f n 4 r (3 : Int32).toInt).toInt ∧ (tget f n 4 r (3 : Int32).toInt).toInt ≤ 1) (a : Nat) : ∀ d : Nat, ((a + d : Nat) : Int) ≤ n → snS f n a ≤ snS f n (a + d) := by
  intro d
  induction d with
  | zero => intro _; exact Int.le_refl _
  | succ d ih =>
    intro h
    have z := (he ((a + d : Nat) : Int) (by omega) (by omega)).1
    have e : snS f n (a + (d + 1)) = snS f n (a + d) + (tget f n 4 ((a + d : Nat) : Int) (3 : Int32).toInt).toInt := rfl
    have y := ih (by omega)
    omega
theorem sn_le {f : Nat → Int32} {n : Int} {k : Int32} (he : ∀ r : Int, 0 ≤ r → r < n → 0 ≤ (tget f n 4 r (3 : Int32).toInt).toInt ∧ (tget f n 4 r (3 : Int32).toInt).toInt ≤ 1) (h0 : 0 ≤ k.toInt) (h1 : k.toInt ≤ n) : snS f n k.toInt.toNat ≤ snS f n n.toNat := by
  have z := sn_mono he k.toInt.toNat (n.toNat - k.toInt.toNat) (by omega)
  rw [show k.toInt.toNat + (n.toNat - k.toInt.toNat) = n.toNat by omega] at z
  exact z
def LDI (f : Nat → Int32) (n k : Int) (b : Int32) (ad : Nat → Int32) : Prop := ∃ s : Nat, (s : Int) ≤ snS f n k.toNat ∧ b = nI (2 ^ s) ∧ mOK ad s
theorem mOK_0 : mOK (fun _ => 0) 0 := by
  intro j _
  exact ⟨by show 0 ≤ (0 : Int32).toInt; decide, by show (0 : Int32).toInt < _; decide⟩
theorem ld_0 {f : Nat → Int32} {n : Int} : LDI f n (0 : Int32).toInt 1 (fun _ => 0) := ⟨0, by rw [show (0 : Int32).toInt.toNat = 0 from by decide]; exact Int.le_refl _, by decide, mOK_0⟩
theorem ld_stay {f : Nat → Int32} {n : Int} {k k' b : Int32} {ad : Nat → Int32} (h : LDI f n k.toInt b ad) (he : ∀ r : Int, 0 ≤ r → r < n → 0 ≤ (tget f n 4 r (3 : Int32).toInt).toInt ∧ (tget f n 4 r (3 : Int32).toInt).toInt ≤ 1) (h0 : 0 ≤ k.toInt) (h1 : k.toInt < n) (hk : k'.toInt = k.toInt + 1) : LDI f n k'.toInt b ad := by
  obtain ⟨s, a, c, d⟩ := h
  refine ⟨s, ?_, c, d⟩
  rw [sn_step h0 hk]
  have z := (he k.toInt h0 h1).1
  omega
theorem ld_lt {f : Nat → Int32} {n : Int} {k v : Int32} {s : Nat} (hs : (s : Int) ≤ snS f n k.toInt.toNat) (he : ∀ r : Int, 0 ≤ r → r < n → 0 ≤ (tget f n 4 r (3 : Int32).toInt).toInt ∧ (tget f n 4 r (3 : Int32).toInt).toInt ≤ 1) (h5 : snS f n n.toNat ≤ 5) (hv : v = tget f n 4 k.toInt (3 : Int32).toInt) (h1 : v.toInt = 1) (h0 : 0 ≤ k.toInt) (hk : k.toInt < n) : s < 5 := by
  have z := sn_mono he (k.toInt.toNat + 1) (n.toNat - (k.toInt.toNat + 1)) (by omega)
  rw [show k.toInt.toNat + 1 + (n.toNat - (k.toInt.toNat + 1)) = n.toNat by omega] at z
  have e : snS f n (k.toInt.toNat + 1) = snS f n k.toInt.toNat + (tget f n 4 ((k.toInt.toNat : Nat) : Int) (3 : Int32).toInt).toInt := rfl
  rw [show ((k.toInt.toNat : Nat) : Int) = k.toInt by omega, ← hv] at e
  omega
theorem ld_bitN : ∀ s : Nat, s < 5 → nI (2 ^ s) <<< ((1 : Int32) &&& 31) = nI (2 ^ (s + 1)) := by decide +kernel
theorem ld_go {f : Nat → Int32} {n : Int} {k k' b v : Int32} {s : Nat} {ad : Nat → Int32} (hs : (s : Int) ≤ snS f n k.toInt.toNat) (hb : b = nI (2 ^ s)) (h5 : s < 5) (hm : mOK ad (s + 1)) (hv : v = tget f n 4 k.toInt (3 : Int32).toInt) (h1 : v.toInt = 1) (h0 : 0 ≤ k.toInt) (hk : k'.toInt = k.toInt + 1) : LDI f n k'.toInt (b <<< ((1 : Int32) &&& 31)) ad := by
  refine ⟨s + 1, ?_, by rw [hb]; exact ld_bitN s h5, hm⟩
  rw [sn_step h0 hk, ← hv]
  omega
/-- the masks that are wanted, and those that cells add -/
def TOK (fu : Int32) (ad : Nat → Int32) : Prop := ∃ s : Nat, s ≤ 5 ∧ fu = nI (2 ^ s) - 1 ∧ mOK ad s
theorem ld_end {f : Nat → Int32} {n : Int} {k b : Int32} {ad : Nat → Int32} (h : LDI f n k.toInt b ad) (he : ∀ r : Int, 0 ≤ r → r < n → 0 ≤ (tget f n 4 r (3 : Int32).toInt).toInt ∧ (tget f n 4 r (3 : Int32).toInt).toInt ≤ 1) (h5 : snS f n n.toNat ≤ 5) (h0 : 0 ≤ k.toInt) (h1 : k.toInt ≤ n) : TOK (b - 1) ad := by
  obtain ⟨s, a, c, d⟩ := h
  have z := sn_le he h0 h1
  exact ⟨s, by omega, by rw [c], d⟩
theorem tk_powN : ∀ s : Nat, s < 6 → 0 ≤ (nI (2 ^ s) - 1).toInt ∧ (nI (2 ^ s) - 1).toInt ≤ 31 ∧ (nI (2 ^ s) - 1).toInt = ((2 ^ s : Nat) : Int) - 1 := by decide +kernel
theorem tk_fu {fu : Int32} {ad : Nat → Int32} (h : TOK fu ad) : 0 ≤ fu.toInt ∧ fu.toInt ≤ 31 := by
  obtain ⟨s, a, c, _⟩ := h
  have z := tk_powN s (by omega)
  rw [c]; exact ⟨z.1, z.2.1⟩
theorem tk_ad {fu : Int32} {ad : Nat → Int32} (h : TOK fu ad) {j : Nat} (hj : j < 1536) : 0 ≤ (ad j).toInt ∧ (ad j).toInt ≤ fu.toInt := by
  obtain ⟨s, a, c, d⟩ := h
  have z := tk_powN s (by omega)
  have y := d j hj
  rw [c]; omega
theorem tk_orN : ∀ s : Nat, s < 6 → ∀ x : Nat, x < 2 ^ s → ∀ y : Nat, y < 2 ^ s → 0 ≤ (nI x ||| nI y).toInt ∧ (nI x ||| nI y).toInt < ((2 ^ s : Nat) : Int) := by decide +kernel
theorem tk_or {fu : Int32} {ad : Nat → Int32} (h : TOK fu ad) {x y : Int32} (hx : 0 ≤ x.toInt ∧ x.toInt ≤ fu.toInt) (hy : 0 ≤ y.toInt ∧ y.toInt ≤ fu.toInt) : 0 ≤ (x ||| y).toInt ∧ (x ||| y).toInt ≤ fu.toInt := by
  have b := tk_fu h
  obtain ⟨s, a, c, d⟩ := h
  have z := tk_powN s (by omega)
  rw [c] at hx hy b ⊢
  have q := tk_orN s (by omega) x.toInt.toNat (by omega) y.toInt.toNat (by omega)
  rw [← g5_nI hx.1, ← g5_nI hy.1] at q
  omega
theorem g_mulc {c m : Int32} (hc : 0 ≤ c.toInt ∧ c.toInt ≤ 63) (hm : 1 ≤ m.toInt ∧ m.toInt ≤ 32) : 0 ≤ (c * m).toInt ∧ (c * m).toInt ≤ 63 * m.toInt := by
  have p0 : 0 ≤ c.toInt * m.toInt := Int.mul_nonneg hc.1 (by omega)
  have p1 : c.toInt * m.toInt ≤ 63 * m.toInt := Int.mul_le_mul_of_nonneg_right hc.2 (by omega)
  have e : (c * m).toInt = c.toInt * m.toInt := g5_imul rfl rfl (by omega) (by omega)
  rw [e]; exact ⟨p0, p1⟩
