/-! wandering: draws, cells -/
theorem lr64 {x n : Int64} {a b : Int} (hx : x.toInt = a) (hn : n.toInt = b) (h0 : 0 ≤ a) (hb : 0 < b) (h1 : a < 9223372036854775808) : (x - x / n * n).toInt = a % b := by
  have hd : (x / n).toInt = a / b := by
    rw [Int64.toInt_div, hx, hn, Int.tdiv_eq_ediv_of_nonneg h0]
    have k1 : 0 ≤ a / b := Int.ediv_nonneg h0 (Int.le_of_lt hb)
    have k2 : a / b ≤ a := Int.ediv_le_self _ h0
    exact g5_bm64 (by omega) (by omega)
  have e : a % b = a - a / b * b := by rw [Int.emod_def, Int.mul_comm]
  have k1 : 0 ≤ a % b := Int.emod_nonneg _ (by omega)
  have k2 : 0 ≤ a / b * b := Int.mul_nonneg (Int.ediv_nonneg h0 (Int.le_of_lt hb)) (Int.le_of_lt hb)
  have hm : (x / n * n).toInt = a / b * b := by
    rw [Int64.toInt_mul, hd, hn]; exact g5_bm64 (by omega) (by omega)
  rw [e]
  exact g5_lsub hx hm (by omega) (by omega)
def drw (x : Int64) : Int64 := ((x * 1103) + 12345) - ((x * 1103) + 12345) / 1000003 * 1000003
theorem drw_rg {x : Int64} (h0 : 0 ≤ x.toInt) (h1 : x.toInt ≤ 1000003) : 0 ≤ (drw x).toInt ∧ (drw x).toInt ≤ 1000003 := by
  have e1 : (x * 1103).toInt = x.toInt * 1103 := by
    rw [Int64.toInt_mul, show (1103 : Int64).toInt = 1103 from by decide]; exact g5_bm64 (by omega) (by omega)
  have e2 : ((x * 1103) + 12345).toInt = x.toInt * 1103 + 12345 := by
    rw [Int64.toInt_add, e1, show (12345 : Int64).toInt = 12345 from by decide]; exact g5_bm64 (by omega) (by omega)
  have e3 : (drw x).toInt = (x.toInt * 1103 + 12345) % 1000003 := lr64 e2 (by decide) (by omega) (by omega) (by omega)
  rw [e3]; omega
def wdS (s : Int64) : Nat → Int64
  | 0 => s
  | h + 1 => drw (wdS s h)
theorem wdS_S {s : Int64} {n : Nat} : wdS s (n + 1) = drw (wdS s n) := rfl
theorem wdS_rg {s : Int64} (h0 : 0 ≤ s.toInt) (h1 : s.toInt ≤ 1000000) : ∀ n : Nat, 0 ≤ (wdS s n).toInt ∧ (wdS s n).toInt ≤ 1000003 := by
  intro n
  induction n with
  | zero => exact ⟨h0, by show s.toInt ≤ 1000003; omega⟩
  | succ n ih => exact drw_rg ih.1 ih.2
def wdK (s : Int64) (h : Nat) : Int32 := (wdS s h - wdS s h / 5 * 5).toInt32
theorem wdK_rg {s : Int64} (h0 : 0 ≤ s.toInt) (h1 : s.toInt ≤ 1000000) (n : Nat) : 0 ≤ (wdK s n).toInt ∧ (wdK s n).toInt ≤ 4 := by
  have r := wdS_rg h0 h1 n
  have e : (wdS s n - wdS s n / 5 * 5).toInt = (wdS s n).toInt % 5 := lr64 rfl (by decide) r.1 (by omega) (by omega)
  unfold wdK
  rw [Int64.toInt_toInt32, e, g5_bm (by omega) (by omega)]
  omega
noncomputable def wstep (f : Nat → Int32) (a k : Int) : Int := cif (bs a k = -1 ∨ wallAt f (bs a k)) a (bs a k)
theorem ws_n {f : Nat → Int32} {a k : Int} (h : bs a k = -1) : wstep f a k = a := cif_t (Or.inl h)
theorem ws_w {f : Nat → Int32} {a k : Int} (h : wallAt f (bs a k)) : wstep f a k = a := cif_t (Or.inr h)
theorem ws_y {f : Nat → Int32} {a k : Int} (h : bs a k ≠ -1) (h2 : ¬ wallAt f (bs a k)) : wstep f a k = bs a k := cif_f (fun q => q.elim h h2)
theorem ws_4 {f : Nat → Int32} {a k : Int} (h : bs a k = a) : wstep f a k = a := by
  unfold wstep
  by_cases q : bs a k = -1 ∨ wallAt f (bs a k)
  · rw [cif_t q]
  · rw [cif_f q, h]
noncomputable def wdC (f : Nat → Int32) (s : Int64) (c : Int) : Nat → Int
  | 0 => c
  | h + 1 => wstep f (wdC f s c h) (wdK s (h + 1)).toInt
theorem wdC_S {f : Nat → Int32} {s : Int64} {c : Int} {n : Nat} {y : Int32} (h : wdK s (n + 1) = y) : wdC f s c (n + 1) = wstep f (wdC f s c n) y.toInt := by subst h; rfl
noncomputable def wdR (f : Nat → Int32) (s : Int64) (c : Int) (g : Nat → Int32) : Nat → (Nat → Int32)
  | 0 => g
  | k + 1 => upd (wdR f s c g k) k (Int32.ofInt (wdC f s c k))
theorem wdR_S {f : Nat → Int32} {s : Int64} {c : Int} {g r : Nat → Int32} {k x : Nat} {v : Int32} (h : r = wdR f s c g k) (hx : x = k) (hv : v.toInt = wdC f s c k) : upd r x v = wdR f s c g (k + 1) := by
  subst h; subst hx
  show upd _ _ v = upd _ _ (Int32.ofInt (wdC f s c x))
  rw [← ofInt_i hv]
theorem wdk_of {s d : Int64} {n : Nat} {y : Int32} (hd : d = wdS s n) (hy : (drw d - drw d / 5 * 5).toInt32 = y) : wdK s (n + 1) = y := by
  subst hd; exact hy
def okD (s c : Int32) : Prop := (0 ≤ s.toInt ∧ s.toInt ≤ 1000000) ∧ (0 ≤ c.toInt ∧ c.toInt ≤ 63)
noncomputable def swand (f g : Nat → Int32) (s c : Int32) : Nat → Int32 := cif (okD s c ∧ ¬ wallAt f c.toInt) (wdR f s.toInt64 c.toInt g 24) g
noncomputable def swanf (f : Nat → Int32) (n s c : Int32) : Int32 := cif (okD s c ∧ ¬ wallAt f c.toInt) 1 n
theorem wand_0 {f g : Nat → Int32} {n s c : Int32} (h : okD s c) (h2 : ¬ wallAt f c.toInt) : swand f g s c = wdR f s.toInt64 c.toInt g 24 ∧ swanf f n s c = 1 := ⟨cif_t ⟨h, h2⟩, cif_t ⟨h, h2⟩⟩
theorem wand_1 {f g : Nat → Int32} {n s c : Int32} (h : ¬ okD s c) : swand f g s c = g ∧ swanf f n s c = n := ⟨cif_f (fun q => h q.1), cif_f (fun q => h q.1)⟩
theorem wand_3 {f g : Nat → Int32} {n s c : Int32} (h : wallAt f c.toInt) : swand f g s c = g ∧ swanf f n s c = n := ⟨cif_f (fun q => q.2 h), cif_f (fun q => q.2 h)⟩
noncomputable def adrawn (g : Nat → Int32) (n h : Int32) : Int32 := cif (n.toInt ≠ 0 ∧ 0 ≤ h.toInt ∧ h.toInt ≤ 23) (g h.toInt.toNat) (-1)
theorem bs_4 {c k : Int} (h : k = 4) : bs c k = c := by subst h; unfold bs; rw [if_neg (by omega), if_neg (by omega), if_neg (by omega), if_neg (by omega)]
