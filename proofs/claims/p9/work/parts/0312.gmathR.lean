/-! rows counted ahead: a cell that is barred in hour 0 has none -/
def AH0 (ah : Nat → Int64) (me : Nat → Int32) : Prop := ∀ c k : Nat, c < 64 → k < 32 → 64 ≤ (me c).toInt → ah (32 * c + k) = 0
def AHK (f g : Nat → Int64) : Prop := ∀ j : Nat, j < 2048 → f j = g j
theorem ahk_rf {f : Nat → Int64} : AHK f f := fun _ _ => rfl
theorem ahk_upd {f g : Nat → Int64} {x : Int32} {v : Int64} (h : AHK f g) (hx : 2048 ≤ x.toInt) : AHK (vp_updL f x.toNatClampNeg v) g := by
  intro j hj
  have c := g5_clamp x
  unfold vp_updL
  rw [if_neg (by omega)]; exact h j hj
theorem ah0_k {f g : Nat → Int64} {me : Nat → Int32} (h : AH0 g me) (e : AHK f g) : AH0 f me := by
  intro c k hc hk hm
  rw [e _ (by omega)]; exact h c k hc hk hm
theorem az_step {f : Nat → Int64} {k k' : Int32} (e : ∀ j : Nat, (j : Int) < k.toInt → f j = 0) (h0 : 0 ≤ k.toInt) (hk : k'.toInt = k.toInt + 1) : ∀ j : Nat, (j : Int) < k'.toInt → vp_updL f k.toNatClampNeg 0 j = 0 := by
  intro j hj
  have c := g5_clamp k
  unfold vp_updL
  by_cases q : j = k.toNatClampNeg
  · rw [if_pos q]
  · rw [if_neg q]; exact e j (by omega)
theorem ah0_zero {f : Nat → Int64} {me : Nat → Int32} {k : Int32} (e : ∀ j : Nat, (j : Int) < k.toInt → f j = 0) (hk : 2048 ≤ k.toInt) : AH0 f me := fun c i hc hi _ => e _ (by omega)
theorem ah0_set {ah : Nat → Int64} {me : Nat → Int32} {c x : Int32} {v : Int64} (h : AH0 ah me) (hc : 0 ≤ c.toInt) (hm : 0 ≤ (me c.toNatClampNeg).toInt ∧ (me c.toNatClampNeg).toInt < 32) (hx : x.toInt = 32 * c.toInt + (me c.toNatClampNeg).toInt) : AH0 (vp_updL ah x.toNatClampNeg v) me := by
  intro d k hd hk hmd
  have e1 := g5_clamp c
  have e2 := g5_clamp x
  unfold vp_updL
  by_cases q : 32 * d + k = x.toNatClampNeg
  · have z : d = c.toNatClampNeg := by omega
    rw [z] at hmd; omega
  · rw [if_neg q]; exact h d k hd hk hmd
theorem ra_step {ah : Nat → Int64} {me : Nat → Int32} {p k x : Int32} {n b : Int64} (A : AH0 ah me) (h : 64 ≤ (me p.toNatClampNeg).toInt → n = 0) (hp : 0 ≤ p.toInt ∧ p.toInt ≤ 63) (hk : 0 ≤ k.toInt ∧ k.toInt < 32) (hx : x.toInt = 32 * p.toInt + k.toInt) : 64 ≤ (me p.toNatClampNeg).toInt → n + ah x.toNatClampNeg * b = 0 := by
  intro q
  have e1 := g5_clamp p
  have e2 := g5_clamp x
  have z : ah x.toNatClampNeg = 0 := by
    rw [show x.toNatClampNeg = 32 * p.toNatClampNeg + k.toInt.toNat by omega]
    exact A _ _ (by omega) (by omega) q
  rw [z, h q]; simp
theorem ra_pos {z : Int64} {P : Prop} (h : P → z = 0) (c : (lg_cmp z 0).toInt > 0) : ¬ P := fun p => by rw [h p] at c; exact absurd c (by decide)
