/-! tables of numbers, any state -/
def tget (f : Nat → Int32) (n w r c : Int) : Int32 := if 0 ≤ r ∧ r < n ∧ 0 ≤ c ∧ c < w then f (r * w + c).toNat else -1
def tset (f : Nat → Int32) (n w r c : Int) (v : Int32) : Nat → Int32 := if 0 ≤ r ∧ r < n ∧ 0 ≤ c ∧ c < w then upd f (r * w + c).toNat v else f
def tfil (f : Nat → Int32) (n w : Int) (v : Int32) (k : Int) : Nat → Int32 := fun j => if n * w ≤ (j : Int) ∧ (j : Int) < n * w + k then v else f j
theorem t_getN {f : Nat → Int32} {n w r c : Int} (h : ¬ (0 ≤ r ∧ r < n ∧ 0 ≤ c ∧ c < w)) : (-1 : Int32) = tget f n w r c := by
  unfold tget; rw [if_neg h]
theorem t_get {f : Nat → Int32} {n w r c : Int} {x : Int32} (h : 0 ≤ r ∧ r < n ∧ 0 ≤ c ∧ c < w) (hx : x.toInt = r * w + c) : f x.toNatClampNeg = tget f n w r c := by
  unfold tget; rw [if_pos h, g5_clamp, hx]
theorem t_setN {f : Nat → Int32} {n w r c : Int} {v : Int32} (h : ¬ (0 ≤ r ∧ r < n ∧ 0 ≤ c ∧ c < w)) : f = tset f n w r c v := by
  unfold tset; rw [if_neg h]
theorem t_set {f : Nat → Int32} {n w r c : Int} {x v : Int32} (h : 0 ≤ r ∧ r < n ∧ 0 ≤ c ∧ c < w) (hx : x.toInt = r * w + c) : upd f x.toNatClampNeg v = tset f n w r c v := by
  unfold tset; rw [if_pos h, g5_clamp, hx]
theorem t_fil0 {f : Nat → Int32} {n w : Int} {v : Int32} : f = tfil f n w v (0 : Int32).toInt := by
  funext j
  unfold tfil
  rw [show (0 : Int32).toInt = 0 from by decide, if_neg (by omega)]
theorem t_filS {f g : Nat → Int32} {n w m : Int} {v : Int32} {k k' r : Int32} (h : g = tfil f n w v k.toInt) (hr : r.toInt = n) (hk : 0 ≤ k.toInt ∧ k.toInt < w) (hk' : k'.toInt = k.toInt + 1) (hn : 0 ≤ n ∧ n < m) (hw : 0 ≤ n * w) : tset g m w r.toInt k.toInt v = tfil f n w v k'.toInt := by
  unfold tset
  rw [if_pos ⟨by omega, by omega, hk.1, hk.2⟩, h, hr]
  funext j
  unfold upd tfil
  by_cases e : j = (n * w + k.toInt).toNat
  · rw [if_pos e, if_pos (by omega)]
  · rw [if_neg e]
    by_cases z : n * w ≤ (j : Int) ∧ (j : Int) < n * w + k.toInt
    · rw [if_pos z, if_pos (by omega)]
    · rw [if_neg z, if_neg (by omega)]
