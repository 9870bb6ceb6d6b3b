/-! the model's sightings set and dropped; the law in force; images -/
theorem upd_ne {f : Nat → Int32} {i j : Nat} {v : Int32} (h : j ≠ i) : upd f i v j = f j := by unfold upd; rw [if_neg h]
theorem upd_eq {f : Nat → Int32} {i : Nat} {v : Int32} : upd f i v i = v := by unfold upd; rw [if_pos rfl]
/-- a place behind the sightings that count -/
theorem mi_updS {f : Nat → Int32} {i : Nat} {v : Int32} (h : MI f) (hv : rOK i v.toInt) (h1 : 230 + 4 * (f 5).toInt ≤ (i : Int)) (h2 : i < 270) : MI (upd f i v) := by
  have h5 := mi_5 h
  have u : ∀ j : Nat, j ≠ i → upd f i v j = f j := fun j hj => upd_ne hj
  have e5 : upd f i v 5 = f 5 := u 5 (by omega)
  refine ⟨fun j => ?_, ?_, ?_, fun l hl => ?_⟩
  · by_cases e : j = i
    · subst e; rw [upd_eq]; exact hv
    · rw [u j e]; exact h.1 j
  · have e : mSN (upd f i v) = mSN f := by
      unfold mSN
      rw [e5]
      refine sg_sn _ (fun j hj => ?_)
      have z3 : (3 : Int32).toInt = 3 := (by decide)
      rw [z3]
      unfold tget
      by_cases q : 0 ≤ (j : Int) ∧ (j : Int) < (f 5).toInt ∧ (0 : Int) ≤ 3 ∧ (3 : Int) < 4
      · rw [if_pos q, if_pos q]; exact u _ (by omega)
      · rw [if_neg q, if_neg q]
    rw [e]; exact h.2.1
  · rw [u 3 (by omega), u 2 (by omega)]; exact h.2.2.1
  · rw [u 2 (by omega)] at hl
    exact lawOK_congr (fun j hj => u j (by omega)) (h.2.2.2 l hl)
/-- one sighting more counts -/
theorem mi_inc5 {f : Nat → Int32} {v : Int32} (h : MI f) (hn : (f 5).toInt < 10) (hv : v.toInt = (f 5).toInt + 1) (hs : mSN f + (f (230 + 4 * (f 5).toInt.toNat + 3)).toInt ≤ 5) : MI (upd f 5 v) := by
  have h5 := mi_5 h
  have u : ∀ j : Nat, j ≠ 5 → upd f 5 v j = f j := fun j hj => upd_ne hj
  have z3 : (3 : Int32).toInt = 3 := (by decide)
  refine ⟨fun j => ?_, ?_, ?_, fun l hl => ?_⟩
  · by_cases e : j = 5
    · subst e; rw [upd_eq]
      unfold rOK
      refine ⟨?_, ?_, ?_, ?_, ?_, ?_, ?_, ?_, ?_, ?_, ?_, ?_, ?_, ?_, ?_, ?_, ?_, ?_, ?_, ?_, ?_, ?_, ?_⟩ <;> (intros; omega)
    · rw [u j e]; exact h.1 j
  · unfold mSN at hs ⊢
    rw [upd_eq, show v.toInt.toNat = (f 5).toInt.toNat + 1 by omega]
    show snS _ v.toInt (f 5).toInt.toNat + (tget _ v.toInt 4 (((f 5).toInt.toNat : Nat) : Int) (3 : Int32).toInt).toInt ≤ 5
    have e : snS (fun j => upd f 5 v (230 + j)) v.toInt (f 5).toInt.toNat = snS (fun j => f (230 + j)) (f 5).toInt (f 5).toInt.toNat := by
      refine sg_sn _ (fun j hj => ?_)
      rw [z3]
      unfold tget
      rw [if_pos (by omega), if_pos (by omega)]
      exact u _ (by omega)
    rw [e, z3]
    unfold tget
    rw [if_pos (by omega)]
    show snS (fun j => f (230 + j)) (f 5).toInt (f 5).toInt.toNat + (upd f 5 v (230 + ((((f 5).toInt.toNat : Nat) : Int) * 4 + 3).toNat)).toInt ≤ 5
    rw [u _ (by omega), show 230 + ((((f 5).toInt.toNat : Nat) : Int) * 4 + 3).toNat = 230 + 4 * (f 5).toInt.toNat + 3 by omega]
    exact hs
  · rw [u 3 (by omega), u 2 (by omega)]; exact h.2.2.1
  · rw [u 2 (by omega)] at hl
    exact lawOK_congr (fun j hj => u j (by omega)) (h.2.2.2 l hl)
/-- another law in force -/
theorem mi_upd3 {f : Nat → Int32} {v : Int32} (h : MI f) (h0 : -1 ≤ v.toInt) (h1 : v.toInt < (f 2).toInt) : MI (upd f 3 v) := by
  have h2 := mi_2 h
  have u : ∀ j : Nat, j ≠ 3 → upd f 3 v j = f j := fun j hj => upd_ne hj
  refine ⟨fun j => ?_, ?_, ?_, fun l hl => ?_⟩
  · by_cases e : j = 3
    · subst e; rw [upd_eq]
      unfold rOK
      refine ⟨?_, ?_, ?_, ?_, ?_, ?_, ?_, ?_, ?_, ?_, ?_, ?_, ?_, ?_, ?_, ?_, ?_, ?_, ?_, ?_, ?_, ?_, ?_⟩ <;> (intros; omega)
    · rw [u j e]; exact h.1 j
  · rw [mSN_congr (u 5 (by omega)) (fun j a b => u j (by omega)) (by have z := mi_5 h; omega)]; exact h.2.1
  · rw [upd_eq, u 2 (by omega)]; exact h1
  · rw [u 2 (by omega)] at hl
    exact lawOK_congr (fun j hj => u j (by omega)) (h.2.2.2 l hl)
theorem mSN_updS {f : Nat → Int32} {i : Nat} {v : Int32} (h5 : 0 ≤ (f 5).toInt) (h1 : 230 + 4 * (f 5).toInt ≤ (i : Int)) : mSN (upd f i v) = mSN f := by
  unfold mSN
  rw [upd_ne (f := f) (i := i) (v := v) (j := 5) (by omega)]
  refine sg_sn _ (fun j hj => ?_)
  have z3 : (3 : Int32).toInt = 3 := (by decide)
  rw [z3]
  unfold tget
  by_cases q : 0 ≤ (j : Int) ∧ (j : Int) < (f 5).toInt ∧ (0 : Int) ≤ 3 ∧ (3 : Int) < 4
  · rw [if_pos q, if_pos q]; exact upd_ne (by omega)
  · rw [if_neg q, if_neg q]
theorem mi_sight {f : Nat → Int32} {a0 a1 a2 a3 c w hh s v : Int32} (h : MI f) (hn : (f 5).toInt < 10) (e0 : a0.toInt = 230 + 4 * (f 5).toInt) (e1 : a1.toInt = a0.toInt + 1) (e2 : a2.toInt = a0.toInt + 2) (e3 : a3.toInt = a0.toInt + 3) (hc : 0 ≤ c.toInt ∧ c.toInt ≤ 63) (hw : 0 ≤ w.toInt ∧ w.toInt ≤ 3) (hh' : 0 ≤ hh.toInt ∧ hh.toInt ≤ 23) (hs : 0 ≤ s.toInt ∧ s.toInt ≤ 1) (hv : v.toInt = (f 5).toInt + 1) (h5 : mSN f + s.toInt ≤ 5) : MI (upd (upd (upd (upd (upd f a0.toNatClampNeg c) a1.toNatClampNeg w) a2.toNatClampNeg hh) a3.toNatClampNeg s) 5 v) := by
  have g := mi_5 h
  have c0 := g5_clamp a0
  have c1 := g5_clamp a1
  have c2 := g5_clamp a2
  have c3 := g5_clamp a3
  have m1 := mi_updS (i := a0.toNatClampNeg) (v := c) h (by unfold rOK; refine ⟨?_, ?_, ?_, ?_, ?_, ?_, ?_, ?_, ?_, ?_, ?_, ?_, ?_, ?_, ?_, ?_, ?_, ?_, ?_, ?_, ?_, ?_, ?_⟩ <;> (intros; omega)) (by omega) (by omega)
  have s1 := mSN_updS (f := f) (i := a0.toNatClampNeg) (v := c) (by omega) (by omega)
  have f1 : upd f a0.toNatClampNeg c 5 = f 5 := upd_ne (by omega)
  generalize upd f a0.toNatClampNeg c = F1 at m1 s1 f1 ⊢
  have m2 := mi_updS (i := a1.toNatClampNeg) (v := w) m1 (by unfold rOK; refine ⟨?_, ?_, ?_, ?_, ?_, ?_, ?_, ?_, ?_, ?_, ?_, ?_, ?_, ?_, ?_, ?_, ?_, ?_, ?_, ?_, ?_, ?_, ?_⟩ <;> (intros; omega)) (by rw [f1]; omega) (by omega)
  have s2 := mSN_updS (f := F1) (i := a1.toNatClampNeg) (v := w) (by rw [f1]; omega) (by rw [f1]; omega)
  have f2 : upd F1 a1.toNatClampNeg w 5 = F1 5 := upd_ne (by omega)
  generalize upd F1 a1.toNatClampNeg w = F2 at m2 s2 f2 ⊢
  rw [f1] at f2
  have m3 := mi_updS (i := a2.toNatClampNeg) (v := hh) m2 (by unfold rOK; refine ⟨?_, ?_, ?_, ?_, ?_, ?_, ?_, ?_, ?_, ?_, ?_, ?_, ?_, ?_, ?_, ?_, ?_, ?_, ?_, ?_, ?_, ?_, ?_⟩ <;> (intros; omega)) (by rw [f2]; omega) (by omega)
  have s3 := mSN_updS (f := F2) (i := a2.toNatClampNeg) (v := hh) (by rw [f2]; omega) (by rw [f2]; omega)
  have f3 : upd F2 a2.toNatClampNeg hh 5 = F2 5 := upd_ne (by omega)
  generalize upd F2 a2.toNatClampNeg hh = F3 at m3 s3 f3 ⊢
  rw [f2] at f3
  have m4 := mi_updS (i := a3.toNatClampNeg) (v := s) m3 (by unfold rOK; refine ⟨?_, ?_, ?_, ?_, ?_, ?_, ?_, ?_, ?_, ?_, ?_, ?_, ?_, ?_, ?_, ?_, ?_, ?_, ?_, ?_, ?_, ?_, ?_⟩ <;> (intros; omega)) (by rw [f3]; omega) (by omega)
  have s4 := mSN_updS (f := F3) (i := a3.toNatClampNeg) (v := s) (by rw [f3]; omega) (by rw [f3]; omega)
  have f4 : upd F3 a3.toNatClampNeg s 5 = F3 5 := upd_ne (by omega)
  rw [f3] at f4
  refine mi_inc5 m4 (by rw [f4]; exact hn) (by rw [f4]; exact hv) ?_
  rw [f4, show 230 + 4 * (f 5).toInt.toNat + 3 = a3.toNatClampNeg by omega, upd_eq, s4, s3, s2, s1]
  exact h5
