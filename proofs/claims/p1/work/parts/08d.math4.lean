/-! the model's counts, hour by hour -/
def i0A (M : Nat → Int32) (n i : Int) : Int64 := if i % 32 = 0 ∧ i / 32 < n ∧ (M (i / 32).toNat).toInt < 64 then 1 else 0
def i0B (n m i : Int) : Int64 := if i % 32 = 0 ∧ 1472 ≤ i / 32 ∧ (i / 32 < 1472 + n ∨ (i / 32 = 1472 + n ∧ 0 < m)) then 1 else 0
theorem g5_i0Az {M : Nat → Int32} : ∀ i : Int, 0 ≤ i → fz (fun _ => 0) i = i0A M (0 : Int32).toInt i := by
  intro i h
  rw [show (0 : Int32).toInt = 0 from by decide]
  unfold i0A; rw [if_neg (by omega)]; rfl
theorem g5_i0Bz : ∀ i : Int, 0 ≤ i → fz (fun _ => 0) i = i0B (0 : Int32).toInt 0 i := by
  intro i h
  rw [show (0 : Int32).toInt = 0 from by decide]
  unfold i0B; rw [if_neg (by omega)]; rfl
theorem g5_i0B0 {k : Nat → Int64} {n : Int} (h : ∀ i : Int, 0 ≤ i → fz k i = i0B n 0 i) : ∀ i : Int, 0 ≤ i → fz k i = i0B n (0 : Int32).toInt i := by
  rw [show (0 : Int32).toInt = 0 from by decide]; exact h
theorem g5_i0A1 {M : Nat → Int32} {k : Nat → Int64} {n n' x : Int32} (ih : ∀ i : Int, 0 ≤ i → fz k i = i0A M n.toInt i) (h0 : 0 ≤ n.toInt) (h1 : n'.toInt = n.toInt + 1) (hx : x.toInt = 32 * n.toInt) (hm : (M n.toNatClampNeg).toInt < 64) : ∀ i : Int, 0 ≤ i → fz (vp_updL k x.toNatClampNeg 1) i = i0A M n'.toInt i := by
  intro i hi
  rw [fz_upd hi (by omega)]
  unfold i0A
  by_cases e : i = x.toInt
  · have e2 : i / 32 = n.toInt := by omega
    rw [if_pos e, if_pos ⟨by omega, by omega, by rw [e2, ← g5_clamp]; exact hm⟩]
  · rw [if_neg e, ih i hi]
    unfold i0A
    by_cases q : i % 32 = 0 ∧ i / 32 < n.toInt ∧ (M (i / 32).toNat).toInt < 64
    · rw [if_pos q, if_pos ⟨q.1, by omega, q.2.2⟩]
    · rw [if_neg q, if_neg (fun z => q ⟨z.1, by omega, z.2.2⟩)]
theorem g5_i0A2 {M : Nat → Int32} {k : Nat → Int64} {n n' : Int32} (ih : ∀ i : Int, 0 ≤ i → fz k i = i0A M n.toInt i) (h0 : 0 ≤ n.toInt) (h1 : n'.toInt = n.toInt + 1) (hm : 64 ≤ (M n.toNatClampNeg).toInt) : ∀ i : Int, 0 ≤ i → fz k i = i0A M n'.toInt i := by
  intro i hi
  rw [ih i hi]
  unfold i0A
  by_cases q : i % 32 = 0 ∧ i / 32 < n.toInt ∧ (M (i / 32).toNat).toInt < 64
  · rw [if_pos q, if_pos ⟨q.1, by omega, q.2.2⟩]
  · rw [if_neg q, if_neg (fun z => by
      by_cases w : i / 32 < n.toInt
      · exact q ⟨z.1, w, z.2.2⟩
      · have e : i / 32 = n.toInt := by omega
        have := z.2.2
        rw [e, ← g5_clamp] at this; omega)]
theorem g5_i0Bs {k : Nat → Int64} {n m m' x : Int32} {v : Int64} (ih : ∀ i : Int, 0 ≤ i → fz k i = i0B n.toInt m.toInt i) (hn : 0 ≤ n.toInt) (hm : 0 ≤ m.toInt ∧ m.toInt < 32) (h1 : m'.toInt = m.toInt + 1) (hx : x.toInt = 32 * (1472 + n.toInt) + m.toInt) (hv : (m.toInt = 0 ∧ v = 1) ∨ (m.toInt ≠ 0 ∧ v = 0)) : ∀ i : Int, 0 ≤ i → fz (vp_updL k x.toNatClampNeg v) i = i0B n.toInt m'.toInt i := by
  intro i hi
  rw [fz_upd hi (by omega)]
  by_cases e : i = x.toInt
  · rw [if_pos e]
    unfold i0B
    rcases hv with ⟨a, b⟩ | ⟨a, b⟩
    · rw [b, if_pos (by omega)]
    · rw [b, if_neg (by omega)]
  · rw [if_neg e, ih i hi]
    unfold i0B
    by_cases q : i % 32 = 0 ∧ 1472 ≤ i / 32 ∧ (i / 32 < 1472 + n.toInt ∨ (i / 32 = 1472 + n.toInt ∧ 0 < m.toInt))
    · rw [if_pos q, if_pos (by omega)]
    · rw [if_neg q, if_neg (by omega)]
theorem g5_i0Bn {k : Nat → Int64} {n n' m : Int32} (ih : ∀ i : Int, 0 ≤ i → fz k i = i0B n.toInt m.toInt i) (h1 : n'.toInt = n.toInt + 1) (hm : m.toInt = 32) : ∀ i : Int, 0 ≤ i → fz k i = i0B n'.toInt 0 i := by
  intro i hi
  rw [ih i hi]
  unfold i0B
  by_cases q : i % 32 = 0 ∧ 1472 ≤ i / 32 ∧ (i / 32 < 1472 + n.toInt ∨ (i / 32 = 1472 + n.toInt ∧ 0 < m.toInt))
  · rw [if_pos q, if_pos (by omega)]
  · rw [if_neg q, if_neg (by omega)]
def addW (M : Nat → Int32) (h c d : Int) (v x : Int64) : Nat → Int64
  | 0 => v
  | w + 1 => if stF M c w (h + 1) = d then addW M h c d v x w + x else addW M h c d v x w
def puS (M : Nat → Int32) (h : Int) (g : Int → Int64) (d : Int) : Nat → Int64
  | 0 => 0
  | c + 1 => addW M h c d (puS M h g d c) (g c) 5
def aF (M : Nat → Int32) : Nat → Int → Int → Int64
  | 0 => fun c q => if q = 0 ∧ (M c.toNat).toInt < 64 then 1 else 0
  | h + 1 => fun d q => puS M h (fun c => aF M h c q) d 64
def psB (M : Nat → Int32) (h : Int) (g : Int → Int64) (c : Int) : Nat → Int64
  | 0 => 0
  | w + 1 => if stF M c w (h + 1) = -1 then psB M h g c w else psB M h g c w + g (stF M c w (h + 1))
/-- n hours ahead of the last -/
def bG (M : Nat → Int32) : Nat → Int → Int → Int64
  | 0 => fun _ q => if q = 0 then 1 else 0
  | n + 1 => fun c q => psB M (22 - (n : Int)) (fun d => bG M n d q) c 5
theorem puA_addW {M : Nat → Int32} {f : Nat → Int64} {h c d q : Int} : ∀ k : Nat, puA M f h c d q k = addW M h c d (fz f (32 * (64 * (h + 1) + d) + q)) (fz f (32 * (64 * h + c) + q)) k := by
  intro k
  induction k with
  | zero => rfl
  | succ k ih => unfold puA addW; rw [ih]
theorem stF_rng {M : Nat → Int32} {c k h : Int} (h0 : 0 ≤ c) (h1 : c ≤ 63) : stF M c k h = -1 ∨ (0 ≤ stF M c k h ∧ stF M c k h ≤ 63) := by
  unfold stF
  have := bs_lo (w := k) h0 h1
  split
  · right; omega
  · left; rfl
theorem psA_psB {M : Nat → Int32} {f : Nat → Int64} {g : Int → Int64} {h c q : Int} (h0 : 0 ≤ c) (h1 : c ≤ 63) (hz : fz f (32 * (64 * h + c) + q) = 0) (hg : ∀ d : Int, 0 ≤ d → d ≤ 63 → fz f (32 * (64 * (h + 1) + d) + q) = g d) : ∀ k : Nat, psA M f h c q k = psB M h g c k := by
  intro k
  induction k with
  | zero => exact hz
  | succ k ih =>
    unfold psA psB
    rcases stF_rng (M := M) (k := k) (h := h + 1) h0 h1 with e | e
    · rw [if_pos e, if_pos e, ih]
    · rw [if_neg (by omega), if_neg (by omega), ih, hg _ e.1 e.2]
theorem g5_aI1 {M : Nat → Int32} {k : Nat → Int64} {n : Int32} (h : ∀ i : Int, 0 ≤ i → fz k i = i0A M n.toInt i) (hn : n.toInt = 64) : ∀ (t : Nat) (c q : Int), (t : Int) ≤ (0 : Int32).toInt → 0 ≤ c → c ≤ 63 → 0 ≤ q → q < 32 → fz k (32 * (64 * (t : Int) + c) + q) = aF M t c q := by
  intro t c q a b1 b2 c1 c2
  rw [show (0 : Int32).toInt = 0 from by decide] at a
  have e : t = 0 := by omega
  subst e
  rw [h _ (by omega)]
  unfold i0A
  show _ = if q = 0 ∧ (M c.toNat).toInt < 64 then (1 : Int64) else 0
  have e1 : (32 * (64 * ((0 : Nat) : Int) + c) + q) / 32 = c := by omega
  rw [e1]
  by_cases z : q = 0 ∧ (M c.toNat).toInt < 64
  · rw [if_pos z, if_pos ⟨by omega, by omega, z.2⟩]
  · rw [if_neg z, if_neg (fun y => z ⟨by omega, y.2.2⟩)]
theorem g5_aI2 {M : Nat → Int32} {k : Nat → Int64} {n : Int32} (h : ∀ i : Int, 0 ≤ i → fz k i = i0A M n.toInt i) (hn : n.toInt = 64) : ∀ i : Int, 2048 * ((0 : Int32).toInt + 1) ≤ i → i < 49152 → fz k i = 0 := by
  intro i a b
  rw [show (0 : Int32).toInt = 0 from by decide] at a
  rw [h i (by omega)]; unfold i0A; rw [if_neg (by omega)]
theorem g5_aJ1 {M : Nat → Int32} {k z : Nat → Int64} {h : Int} (hh : 0 ≤ h) (ih : ∀ (t : Nat) (c q : Int), (t : Int) ≤ h → 0 ≤ c → c ≤ 63 → 0 ≤ q → q < 32 → fz k (32 * (64 * (t : Int) + c) + q) = aF M t c q) (g2 : ∀ i : Int, 0 ≤ i → (i < 2048 * (h + 1) ∨ 2048 * (h + 2) ≤ i) → fz z i = fz k i) : ∀ (t : Nat) (c q : Int), (t : Int) ≤ h → 0 ≤ c → c ≤ 63 → 0 ≤ q → q < 32 → fz z (32 * (64 * (t : Int) + c) + q) = aF M t c q := by
  intro t c q a b1 b2 c1 c2
  rw [g2 _ (by omega) (by omega)]; exact ih t c q a b1 b2 c1 c2
theorem g5_aJ2 {M : Nat → Int32} {k z : Nat → Int64} {h d d' : Int32} (hh : 0 ≤ h.toInt) (hd : 0 ≤ d.toInt ∧ d.toInt ≤ 63) (hd' : d'.toInt = d.toInt + 1) (i1 : ∀ (t : Nat) (c q : Int), (t : Int) ≤ h.toInt → 0 ≤ c → c ≤ 63 → 0 ≤ q → q < 32 → fz k (32 * (64 * (t : Int) + c) + q) = aF M t c q) (i2 : ∀ e q : Int, 0 ≤ e → e ≤ 63 → 0 ≤ q → q < 32 → fz k (32 * (64 * (h.toInt + 1) + e) + q) = puS M h.toInt (fun c => aF M h.toInt.toNat c q) e d.toInt.toNat) (g1 : ∀ e q : Int, 0 ≤ e → e ≤ 63 → 0 ≤ q → q < 32 → fz z (32 * (64 * (h.toInt + 1) + e) + q) = puA M k h.toInt d.toInt e q 5) : ∀ e q : Int, 0 ≤ e → e ≤ 63 → 0 ≤ q → q < 32 → fz z (32 * (64 * (h.toInt + 1) + e) + q) = puS M h.toInt (fun c => aF M h.toInt.toNat c q) e d'.toInt.toNat := by
  intro e q a b c1 c2
  have e1 : d'.toInt.toNat = d.toInt.toNat + 1 := by omega
  have e2 : ((d.toInt.toNat : Nat) : Int) = d.toInt := by omega
  have e3 : ((h.toInt.toNat : Nat) : Int) = h.toInt := by omega
  have k1 := i1 h.toInt.toNat d.toInt q (by omega) hd.1 hd.2 c1 c2
  rw [e3] at k1
  rw [g1 e q a b c1 c2, puA_addW, e1]
  unfold puS
  rw [i2 e q a b c1 c2, k1, e2]
theorem g5_aK1 {M : Nat → Int32} {k : Nat → Int64} {h h' d : Int32} (hh : 0 ≤ h.toInt) (hh' : h'.toInt = h.toInt + 1) (hd : d.toInt = 64) (i1 : ∀ (t : Nat) (c q : Int), (t : Int) ≤ h.toInt → 0 ≤ c → c ≤ 63 → 0 ≤ q → q < 32 → fz k (32 * (64 * (t : Int) + c) + q) = aF M t c q) (i2 : ∀ e q : Int, 0 ≤ e → e ≤ 63 → 0 ≤ q → q < 32 → fz k (32 * (64 * (h.toInt + 1) + e) + q) = puS M h.toInt (fun c => aF M h.toInt.toNat c q) e d.toInt.toNat) : ∀ (t : Nat) (c q : Int), (t : Int) ≤ h'.toInt → 0 ≤ c → c ≤ 63 → 0 ≤ q → q < 32 → fz k (32 * (64 * (t : Int) + c) + q) = aF M t c q := by
  intro t c q a b1 b2 c1 c2
  by_cases z : (t : Int) ≤ h.toInt
  · exact i1 t c q z b1 b2 c1 c2
  · have e : t = h.toInt.toNat + 1 := by omega
    have e3 : ((h.toInt.toNat : Nat) : Int) = h.toInt := by omega
    have k := i2 c q b1 b2 c1 c2
    rw [hd, show Int.toNat 64 = 64 from rfl] at k
    rw [show (t : Int) = h.toInt + 1 by omega, k, e]
    show _ = puS M ((h.toInt.toNat : Nat) : Int) (fun c => aF M h.toInt.toNat c q) c 64
    rw [e3]
theorem g5_bK1 {M : Nat → Int32} {k : Nat → Int64} {n : Int32} (h : ∀ i : Int, 0 ≤ i → fz k i = i0B n.toInt 0 i) (hn : n.toInt = 64) : ∀ (t : Nat) (c q : Int), (22 : Int32).toInt < (t : Int) → (t : Int) ≤ 23 → 0 ≤ c → c ≤ 63 → 0 ≤ q → q < 32 → fz k (32 * (64 * (t : Int) + c) + q) = bG M (23 - t) c q := by
  intro t c q a a2 b1 b2 c1 c2
  rw [show (22 : Int32).toInt = 22 from by decide] at a
  have e : t = 23 := by omega
  subst e
  rw [h _ (by omega)]
  show _ = if q = 0 then (1 : Int64) else 0
  unfold i0B
  by_cases z : q = 0
  · rw [if_pos z, if_pos (by omega)]
  · rw [if_neg z, if_neg (by omega)]
theorem g5_bK2 {k : Nat → Int64} {n : Int32} (h : ∀ i : Int, 0 ≤ i → fz k i = i0B n.toInt 0 i) (hn : n.toInt = 64) : ∀ i : Int, 0 ≤ i → i < 2048 * ((22 : Int32).toInt + 1) → fz k i = 0 := by
  intro i a b
  rw [show (22 : Int32).toInt = 22 from by decide] at b
  rw [h i a]; unfold i0B; rw [if_neg (by omega)]
theorem g5_bN1 {M : Nat → Int32} {k z : Nat → Int64} {h d d' : Int32} (hh : 0 ≤ h.toInt ∧ h.toInt ≤ 22) (hd : 0 ≤ d.toInt ∧ d.toInt ≤ 63) (hd' : d'.toInt = d.toInt + 1) (k1 : ∀ (t : Nat) (c q : Int), h.toInt < (t : Int) → (t : Int) ≤ 23 → 0 ≤ c → c ≤ 63 → 0 ≤ q → q < 32 → fz k (32 * (64 * (t : Int) + c) + q) = bG M (23 - t) c q) (n1 : ∀ c q : Int, 0 ≤ c → c < d.toInt → 0 ≤ q → q < 32 → fz k (32 * (64 * h.toInt + c) + q) = bG M (23 - h.toInt.toNat) c q) (n2 : ∀ i : Int, 0 ≤ i → i < 2048 * (h.toInt + 1) → (i < 2048 * h.toInt ∨ 32 * (64 * h.toInt + d.toInt) ≤ i) → fz k i = 0) (c1 : ∀ q : Int, 0 ≤ q → q < 32 → fz z (32 * (64 * h.toInt + d.toInt) + q) = psA M k h.toInt d.toInt q 5) (c2 : ∀ i : Int, 0 ≤ i → (i < 32 * (64 * h.toInt + d.toInt) ∨ 32 * (64 * h.toInt + d.toInt) + 32 ≤ i) → fz z i = fz k i) : ∀ c q : Int, 0 ≤ c → c < d'.toInt → 0 ≤ q → q < 32 → fz z (32 * (64 * h.toInt + c) + q) = bG M (23 - h.toInt.toNat) c q := by
  intro c q a b x y
  by_cases e : c = d.toInt
  · have e1 : 23 - h.toInt.toNat = (22 - h.toInt.toNat) + 1 := by omega
    have e2 : (22 - ((22 - h.toInt.toNat : Nat) : Int)) = h.toInt := by omega
    rw [e, c1 q x y, psA_psB hd.1 hd.2 (n2 _ (by omega) (by omega) (by omega)) (g := fun d => bG M (22 - h.toInt.toNat) d q), e1]
    · show _ = psB M (22 - ((22 - h.toInt.toNat : Nat) : Int)) (fun d => bG M (22 - h.toInt.toNat) d q) d.toInt 5
      rw [e2]
    · intro d0 p1 p2
      have k2 := k1 (h.toInt.toNat + 1) d0 q (by omega) (by omega) p1 p2 x y
      rw [show 23 - (h.toInt.toNat + 1) = 22 - h.toInt.toNat by omega] at k2
      rw [← k2]; congr 1; omega
  · rw [c2 _ (by omega) (by omega)]; exact n1 c q a (by omega) x y
theorem g5_m0 {f : Nat → Int32} (hm : ∀ j : Nat, j < 1536 → f j = 0 ∨ f j = 64) {j : Nat} (hj : j < 1536) (h : (f j).toInt < 64) : f j = 0 := by
  rcases hm j hj with e | e
  · exact e
  · rw [e] at h; exact absurd h (by decide)
theorem g5_aJz {M : Nat → Int32} {k : Nat → Int64} {h : Int} (hh : 0 ≤ h) (i2 : ∀ i : Int, 2048 * (h + 1) ≤ i → i < 49152 → fz k i = 0) (h22 : h ≤ 22) {g : Int → Int → Int64} : ∀ d q : Int, 0 ≤ d → d ≤ 63 → 0 ≤ q → q < 32 → fz k (32 * (64 * (h + 1) + d) + q) = puS M h (fun c => g q c) d (0 : Int32).toInt.toNat := by
  intro d q a b x y
  rw [show (0 : Int32).toInt.toNat = 0 from by decide, i2 _ (by omega) (by omega)]; rfl
theorem g5_bKn {M : Nat → Int32} {k : Nat → Int64} {h h' d : Int32} (hh : 0 ≤ h.toInt) (hh' : h'.toInt = h.toInt - 1) (hd : d.toInt = 64) (k1 : ∀ (t : Nat) (c q : Int), h.toInt < (t : Int) → (t : Int) ≤ 23 → 0 ≤ c → c ≤ 63 → 0 ≤ q → q < 32 → fz k (32 * (64 * (t : Int) + c) + q) = bG M (23 - t) c q) (n1 : ∀ c q : Int, 0 ≤ c → c < d.toInt → 0 ≤ q → q < 32 → fz k (32 * (64 * h.toInt + c) + q) = bG M (23 - h.toInt.toNat) c q) : ∀ (t : Nat) (c q : Int), h'.toInt < (t : Int) → (t : Int) ≤ 23 → 0 ≤ c → c ≤ 63 → 0 ≤ q → q < 32 → fz k (32 * (64 * (t : Int) + c) + q) = bG M (23 - t) c q := by
  intro t c q a b x y z w
  by_cases e : h.toInt < (t : Int)
  · exact k1 t c q e b x y z w
  · have e1 : (t : Int) = h.toInt := by omega
    have e2 : h.toInt.toNat = t := by omega
    rw [e1, n1 c q x (by omega) z w, e2]
