/-! images of the row; a sighting that went -/
theorem cdOK_congrB {f g : Nat → Int32} {B : Nat} {a b : Int} (hb : b ≤ 400) (e : ∀ j : Nat, B ≤ j → j < B + 802 → g j = f j) (q : cdOK f B a b) : cdOK g B a b := by
  obtain ⟨h, h0, h1⟩ := q
  refine ⟨h, h0, fun k x y => ?_⟩
  have z := h1 k x y
  unfold stOK at z ⊢
  rw [e (B + 2 * k) (by omega) (by omega), e (B + 2 * k + 1) (by omega) (by omega)]; exact z
theorem clOK_congrB {f g : Nat → Int32} {T k : Nat} (hk : T ≤ k) (hk2 : k ≤ T + 90) (e : ∀ j : Nat, T ≤ j → j < T + 900 → g j = f j) (q : clOK f T k) : clOK g T k := by
  unfold clOK at q ⊢
  obtain ⟨c0, c3, c4, c5, c6, d1, d2⟩ := q
  rw [e k (by omega) (by omega), e (k + 3) (by omega) (by omega), e (k + 4) (by omega) (by omega), e (k + 5) (by omega) (by omega), e (k + 6) (by omega) (by omega)]
  exact ⟨c0, c3, c4, c5, c6, cdOK_congrB c6.2 (fun j a b => e j (by omega) (by omega)) d1, fun y => cdOK_congrB c4.2 (fun j a b => e j (by omega) (by omega)) (d2 y)⟩
theorem lawOK_congrB {f g : Nat → Int32} {T : Nat} (e : ∀ j : Nat, T ≤ j → j < T + 900 → g j = f j) (q : lawOK f T) : lawOK g T := by
  unfold lawOK at q ⊢
  rw [e (T + 1) (by omega) (by omega)]
  exact ⟨q.1, fun c hc => clOK_congrB (by omega) (by have z := q.1; omega) e (q.2 c hc)⟩
theorem mi_congr {f g : Nat → Int32} (e : ∀ j : Nat, j < 5740 → g j = f j) (h : MI f) : MI g := by
  have h2 := mi_2 h
  refine ⟨fun j => ?_, ?_, ?_, fun l hl => ?_⟩
  · by_cases q : j < 5740
    · rw [e j q]; exact h.1 j
    · unfold rOK
      refine ⟨?_, ?_, ?_, ?_, ?_, ?_, ?_, ?_, ?_, ?_, ?_, ?_, ?_, ?_, ?_, ?_, ?_, ?_, ?_, ?_, ?_, ?_, ?_⟩ <;> (intros; omega)
  · rw [mSN_congr (e 5 (by omega)) (fun j a b => e j (by omega)) (by have z := mi_5 h; omega)]; exact h.2.1
  · rw [e 3 (by omega), e 2 (by omega)]; exact h.2.2.1
  · rw [e 2 (by omega)] at hl
    exact lawOK_congrB (fun j a b => e j (by omega)) (h.2.2.2 l hl)
def IMI (f ke : Nat → Int32) : Prop := ∀ k : Nat, k < 2 → (ke k).toInt ≠ 0 → MI (fun j => f (5740 * k + j))
theorem im_back {f ke g : Nat → Int32} {p k : Int32} (h : IMI f ke) (hp : 0 ≤ p.toInt ∧ p.toInt ≤ 1) (hk : (ke p.toNatClampNeg).toInt ≠ 0) (e : ∀ j : Nat, (j : Int) < k.toInt → g j = f (5740 * p.toInt.toNat + j)) (hk2 : k.toInt = 5740) : MI g := by
  have c := g5_clamp p
  have z := h p.toInt.toNat (by omega) (by rw [← c]; exact hk)
  exact mi_congr (fun j hj => e j (by omega)) z
theorem im_step {g r : Nat → Int32} {p k k' x : Int32} (e : ∀ j : Nat, (j : Int) < k.toInt → g (5740 * p.toInt.toNat + j) = r j) (h0 : 0 ≤ k.toInt) (hp : 0 ≤ p.toInt) (hk : k'.toInt = k.toInt + 1) (hx : x.toInt = 5740 * p.toInt + k.toInt) : ∀ j : Nat, (j : Int) < k'.toInt → upd g x.toNatClampNeg (r k.toNatClampNeg) (5740 * p.toInt.toNat + j) = r j := by
  intro j hj
  have c := g5_clamp x
  have d := g5_clamp k
  by_cases q : j = k.toNatClampNeg
  · subst q
    rw [show 5740 * p.toInt.toNat + k.toNatClampNeg = x.toNatClampNeg by omega, upd_eq]
  · rw [upd_ne (by omega)]; exact e j (by omega)
theorem im_keep {f g : Nat → Int32} {p k x v : Int32} (e : ∀ j : Nat, ((j : Int) < 5740 * p.toInt ∨ 5740 * p.toInt + 5740 ≤ (j : Int)) → g j = f j) (hk : 0 ≤ k.toInt ∧ k.toInt < 5740) (hp : 0 ≤ p.toInt) (hx : x.toInt = 5740 * p.toInt + k.toInt) : ∀ j : Nat, ((j : Int) < 5740 * p.toInt ∨ 5740 * p.toInt + 5740 ≤ (j : Int)) → upd g x.toNatClampNeg v j = f j := by
  intro j hj
  have c := g5_clamp x
  rw [upd_ne (by omega)]; exact e j hj
theorem im_image {f g r ke : Nat → Int32} {p k : Int32} (h : IMI f ke) (hr : MI r) (hp : 0 ≤ p.toInt ∧ p.toInt ≤ 1) (hk : k.toInt = 5740) (e : ∀ j : Nat, (j : Int) < k.toInt → g (5740 * p.toInt.toNat + j) = r j) (e2 : ∀ j : Nat, ((j : Int) < 5740 * p.toInt ∨ 5740 * p.toInt + 5740 ≤ (j : Int)) → g j = f j) : IMI g (upd ke p.toNatClampNeg 1) := by
  intro q hq hne
  have c := g5_clamp p
  by_cases z : q = p.toNatClampNeg
  · subst z
    exact mi_congr (fun j hj => by show g (5740 * p.toNatClampNeg + j) = r j; rw [c]; exact e j (by omega)) hr
  · rw [upd_ne z] at hne
    exact mi_congr (fun j hj => by show g (5740 * q + j) = f (5740 * q + j); exact e2 _ (by omega)) (h q hq hne)
/-- the row without one of its sightings: rows behind it moved down, up to a place -/
def mshf (f : Nat → Int32) (s k : Int) : Nat → Int32 := fun j => if 230 + 4 * s ≤ (j : Int) ∧ (j : Int) < k then f (j + 4) else f j
theorem sh_0 {f : Nat → Int32} {s : Int} {k : Int32} (h : k.toInt = 230 + 4 * s) : f = mshf f s k.toInt := by
  funext j; unfold mshf; rw [if_neg (by omega)]
theorem sh_S {f g : Nat → Int32} {s : Int} {k k' x : Int32} (e : g = mshf f s k.toInt) (h0 : 230 + 4 * s ≤ k.toInt) (hs : 0 ≤ s) (hk : k'.toInt = k.toInt + 1) (hx : x.toInt = k.toInt + 4) : upd g k.toNatClampNeg (g x.toNatClampNeg) = mshf f s k'.toInt := by
  have c := g5_clamp k
  have d := g5_clamp x
  subst e
  funext j
  by_cases q : j = k.toNatClampNeg
  · subst q
    rw [upd_eq]
    unfold mshf
    rw [if_neg (by omega), if_pos (by omega)]
    congr 1; omega
  · rw [upd_ne q]
    unfold mshf
    by_cases z : 230 + 4 * s ≤ (j : Int) ∧ (j : Int) < k.toInt
    · rw [if_pos z, if_pos (by omega)]
    · rw [if_neg z, if_neg (by omega)]
theorem mi_drop {f g : Nat → Int32} {s : Int} {k v : Int32} (h : MI f) (e : g = mshf f s k.toInt) (hk : k.toInt = 266) (hs : 0 ≤ s ∧ s < (f 5).toInt) (hv : v.toInt = (f 5).toInt - 1) : MI (upd g 5 v) := by
  have h5 := mi_5 h
  have z3 : (3 : Int32).toInt = 3 := (by decide)
  rw [hk] at e
  have lo : ∀ j : Nat, ((j : Int) < 230 ∨ 266 ≤ (j : Int)) → g j = f j := by
    intro j hj; rw [e]; unfold mshf; rw [if_neg (by omega)]
  refine ⟨fun j => ?_, ?_, ?_, fun l hl => ?_⟩
  · by_cases q : j = 5
    · subst q; rw [upd_eq]
      unfold rOK
      refine ⟨?_, ?_, ?_, ?_, ?_, ?_, ?_, ?_, ?_, ?_, ?_, ?_, ?_, ?_, ?_, ?_, ?_, ?_, ?_, ?_, ?_, ?_, ?_⟩ <;> (intros; omega)
    · rw [upd_ne q]
      by_cases y : 230 + 4 * s ≤ (j : Int) ∧ (j : Int) < 266
      · have w : g j = f (j + 4) := by rw [e]; unfold mshf; rw [if_pos y]
        rw [w]
        have q0 : (j - 230) % 4 = 0 → 0 ≤ (f (j + 4)).toInt ∧ (f (j + 4)).toInt ≤ 63 := fun z => mi_230_0 h (by omega) (by omega) (by omega)
        have q1 : (j - 230) % 4 = 1 → 0 ≤ (f (j + 4)).toInt ∧ (f (j + 4)).toInt ≤ 3 := fun z => mi_230_1 h (by omega) (by omega) (by omega)
        have q2 : (j - 230) % 4 = 2 → 0 ≤ (f (j + 4)).toInt ∧ (f (j + 4)).toInt ≤ 23 := fun z => mi_230_2 h (by omega) (by omega) (by omega)
        have q3 : (j - 230) % 4 = 3 → 0 ≤ (f (j + 4)).toInt ∧ (f (j + 4)).toInt ≤ 1 := fun z => mi_230_3 h (by omega) (by omega) (by omega)
        unfold rOK
        refine ⟨?_, ?_, ?_, ?_, ?_, ?_, ?_, ?_, ?_, ?_, ?_, ?_, fun _ _ z => q0 z, fun _ _ z => q1 z, fun _ _ z => q2 z, fun _ _ z => q3 z, ?_, ?_, ?_, ?_, ?_, ?_, ?_⟩ <;> (intros; omega)
      · have w : g j = f j := by rw [e]; unfold mshf; rw [if_neg y]
        rw [w]; exact h.1 j
  · unfold mSN
    rw [upd_eq]
    have t := sg_rem5 (f := fun j => f (230 + j)) (N := v.toInt) (m_seen h) h.2.1 hs (by omega)
    rw [← sg_sn (g := fun j => upd g 5 v (230 + j)) (m := v.toInt) v.toInt.toNat (fun j hj => ?_)] at t
    · exact t
    · rw [sg_rem hs (by omega) ⟨by omega, by omega⟩, z3]
      unfold tget
      rw [if_pos (by omega)]
      show upd g 5 v (230 + ((j : Int) * 4 + 3).toNat) = _
      rw [upd_ne (by omega), e]
      unfold mshf
      by_cases y : (j : Int) < s
      · rw [if_neg (by omega), if_pos y, if_pos (by omega)]
      · rw [if_pos (by omega), if_neg y, if_pos (by omega)]
        show f (230 + ((j : Int) * 4 + 3).toNat + 4) = f (230 + (((j : Int) + 1) * 4 + 3).toNat)
        congr 1; omega
  · rw [upd_ne (by omega), upd_ne (by omega), lo 3 (by omega), lo 2 (by omega)]; exact h.2.2.1
  · rw [upd_ne (by omega), lo 2 (by omega)] at hl
    exact lawOK_congr (fun j hj => by rw [upd_ne (by omega)]; exact lo j (by omega)) (h.2.2.2 l hl)
