/-! where a look's points bar a thief, in the model -/
def pt64 (h : Int) (g : Nat → Int) : Nat → Nat → Int32
  | 0 => fun _ => 0
  | n + 1 => upd (pt64 h g n) (h * 64 + g n).toNat 64
theorem pt64_val (h : Int) (g : Nat → Int) (n : Nat) : ∀ j : Nat, pt64 h g n j = 0 ∨ pt64 h g n j = 64 := by
  induction n with
  | zero => intro j; exact Or.inl rfl
  | succ n ih =>
    intro j
    unfold pt64 upd
    split
    · exact Or.inr rfl
    · exact ih j
theorem g5_pt64z {h : Int} {g : Nat → Int} : (fun _ => 0 : Nat → Int32) = pt64 h g (0 : Int32).toInt.toNat := by
  rw [show (0 : Int32).toInt.toNat = 0 from by decide]; rfl
theorem g5_pt64 {f : Nat → Int32} {h : Int} {g : Nat → Int} {i i' x : Int32} (ih : f = pt64 h g i.toInt.toNat) (h0 : 0 ≤ i.toInt) (h1 : i'.toInt = i.toInt + 1) (hx : x.toInt = h * 64 + g i.toInt.toNat) : upd f x.toNatClampNeg (f x.toNatClampNeg ||| 64) = pt64 h g i'.toInt.toNat := by
  have e : i'.toInt.toNat = i.toInt.toNat + 1 := by omega
  have v : f x.toNatClampNeg ||| 64 = 64 := by
    rw [ih]
    rcases pt64_val h g i.toInt.toNat x.toNatClampNeg with q | q <;> rw [q] <;> decide
  rw [v, e]; unfold pt64; rw [← ih, g5_clamp, hx]
