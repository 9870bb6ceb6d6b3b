theorem g5_cmppos {x : Int64} (h : 0 < x.toInt) : (lg_cmp x 0).toInt = 1 := by
  have z : (0 : Int64).toInt = 0 := by decide
  rcases g5_cmpI x 0 with ⟨a, _⟩ | ⟨a, _⟩ | ⟨_, b⟩
  · omega
  · omega
  · exact b
theorem g5_ln1 {n : Int64} {c c' : Int32} (h : n.toInt = c.toInt) (h0 : 0 ≤ c.toInt) (h1 : c.toInt < 64) (h2 : c'.toInt = c.toInt + 1) : (n + 1).toInt = c'.toInt := by
  have z : (1 : Int64).toInt = 1 := by decide
  rw [g5_ladd (by omega) (by omega), z]; omega
theorem g5_could64n {n : Int64} {h c : Int} (hn : n.toInt = 64) (h0 : 0 ≤ h ∧ h ≤ 23) (hc : c = -1) : n = spL_could h c := by
  rw [← g5_could64 h0 hc]
  exact Int64.toInt_inj.mp (hn.trans (by decide))
theorem g5_tellsM {x y : Int64} {c w h : Int} (hv : 0 ≤ c ∧ c ≤ 63 ∧ 0 ≤ w ∧ w ≤ 3 ∧ 0 ≤ h ∧ h ≤ 23) (hx : x = cntF (fun _ => 0)) (k : Nat) (hw : w.toNat = k) (hy : y = cntF (vp_updL (fun _ => 0) h.toNat (rayN 0 (gW k c) (nW k c).toNat))) : x - y = spL_tells c w h := by
  unfold spL_tells
  rw [if_pos hv, hx, hy, hw]
theorem g5_dec {x : Int32} {a b : Int} (h : a = b) (hb : x.toInt = b + (-1)) (h0 : 0 ≤ b) : Int.toNat (x.toInt + 1) < Int.toNat (a + 1) := by omega
