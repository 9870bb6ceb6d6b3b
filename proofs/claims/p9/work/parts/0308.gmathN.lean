/-! the model's sightings -/
theorem m_seen {f : Nat → Int32} (h : MI f) : ∀ r : Int, 0 ≤ r → r < (f 5).toInt → 0 ≤ (tget (fun j => f (230 + j)) (f 5).toInt 4 r (3 : Int32).toInt).toInt ∧ (tget (fun j => f (230 + j)) (f 5).toInt 4 r (3 : Int32).toInt).toInt ≤ 1 := by
  intro r a b
  have z3 : (3 : Int32).toInt = 3 := (by decide)
  have h5 := mi_5 h
  rw [z3]
  unfold tget
  rw [if_pos (by omega)]
  exact mi_230_3 h (by omega) (by omega) (by omega)
theorem m_tget {f : Nat → Int32} {r x : Int32} (hr : 0 ≤ r.toInt ∧ r.toInt < (f 5).toInt) (hx : x.toInt = 230 + 4 * r.toInt + 3) : tget (fun j => f (230 + j)) (f 5).toInt 4 r.toInt (3 : Int32).toInt = f x.toNatClampNeg := by
  have z3 : (3 : Int32).toInt = 3 := (by decide)
  rw [z3]
  unfold tget
  rw [if_pos (by omega), g5_clamp]
  show f (230 + (r.toInt * 4 + 3).toNat) = _
  congr 1; omega
theorem mn_stay {f : Nat → Int32} {n k k' : Int32} (h : MI f) (hn : n.toInt ≤ snS (fun j => f (230 + j)) (f 5).toInt k.toInt.toNat) (h0 : 0 ≤ k.toInt) (h1 : k.toInt < (f 5).toInt) (hk : k'.toInt = k.toInt + 1) : n.toInt ≤ snS (fun j => f (230 + j)) (f 5).toInt k'.toInt.toNat := by
  rw [sn_step h0 hk]
  have z := (m_seen h k.toInt h0 h1).1
  omega
theorem mn_go {f : Nat → Int32} {n n' k k' x : Int32} (hn : n.toInt ≤ snS (fun j => f (230 + j)) (f 5).toInt k.toInt.toNat) (h0 : 0 ≤ k.toInt) (h1 : k.toInt < (f 5).toInt) (hx : x.toInt = 230 + 4 * k.toInt + 3) (hv : (f x.toNatClampNeg).toInt = 1) (hk : k'.toInt = k.toInt + 1) (hn' : n'.toInt = n.toInt + 1) : n'.toInt ≤ snS (fun j => f (230 + j)) (f 5).toInt k'.toInt.toNat := by
  rw [sn_step h0 hk, m_tget ⟨h0, h1⟩ hx]
  omega
theorem mn_lt {f : Nat → Int32} {n k x : Int32} (h : MI f) (hn : n.toInt ≤ snS (fun j => f (230 + j)) (f 5).toInt k.toInt.toNat) (h0 : 0 ≤ k.toInt) (h1 : k.toInt < (f 5).toInt) (hx : x.toInt = 230 + 4 * k.toInt + 3) (hv : (f x.toNatClampNeg).toInt = 1) : n.toInt < 5 := by
  have z := sn_mono (m_seen h) (k.toInt.toNat + 1) ((f 5).toInt.toNat - (k.toInt.toNat + 1)) (by omega)
  rw [show k.toInt.toNat + 1 + ((f 5).toInt.toNat - (k.toInt.toNat + 1)) = (f 5).toInt.toNat by omega] at z
  have e : snS (fun j => f (230 + j)) (f 5).toInt (k.toInt.toNat + 1) = snS (fun j => f (230 + j)) (f 5).toInt k.toInt.toNat + (tget (fun j => f (230 + j)) (f 5).toInt 4 ((k.toInt.toNat : Nat) : Int) (3 : Int32).toInt).toInt := rfl
  rw [show ((k.toInt.toNat : Nat) : Int) = k.toInt by omega, m_tget ⟨h0, h1⟩ hx] at e
  have y : snS (fun j => f (230 + j)) (f 5).toInt (f 5).toInt.toNat ≤ 5 := h.2.1
  omega
def WNI (f : Nat → Int32) : Prop := ∀ j : Nat, 0 ≤ (f j).toInt ∧ (f j).toInt ≤ 63
theorem wn_upd {f : Nat → Int32} {i : Nat} {v : Int32} (h : WNI f) (hv : 0 ≤ v.toInt ∧ v.toInt ≤ 63) : WNI (upd f i v) := by
  intro j
  unfold upd
  by_cases e : j = i
  · rw [if_pos e]; exact hv
  · rw [if_neg e]; exact h j
