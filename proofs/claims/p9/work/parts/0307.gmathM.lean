/-! the model's rows: what every call keeps -/
def TPI (f : Nat → Int32) : Prop := ∀ j : Nat, 0 ≤ (f j).toInt ∧ (f j).toInt ≤ 255
def PTI (f : Nat → Int32) : Prop := ∀ j : Nat, 0 ≤ (f j).toInt ∧ (f j).toInt ≤ 1535
def MEI (f : Nat → Int32) : Prop := ∀ j : Nat, 0 ≤ (f j).toInt ∧ ((f j).toInt < 32 ∨ 64 ≤ (f j).toInt) ∧ (f j).toInt ≤ 127
theorem g5_cmpI (x y : Int64) : (x.toInt < y.toInt ∧ (lg_cmp x y).toInt = -1) ∨ (x.toInt = y.toInt ∧ (lg_cmp x y).toInt = 0) ∨ (x.toInt > y.toInt ∧ (lg_cmp x y).toInt = 1) := by
  unfold lg_cmp
  by_cases h : x > y
  · right; right
    rw [if_pos h]
    exact ⟨Int64.lt_iff_toInt_lt.mp h, by decide⟩
  · rw [if_neg h]
    by_cases e : x = y
    · right; left
      rw [if_pos e, e]; exact ⟨rfl, by decide⟩
    · left
      rw [if_neg e]
      have h1 : ¬ y.toInt < x.toInt := fun q => h (Int64.lt_iff_toInt_lt.mpr q)
      have h2 : x.toInt ≠ y.toInt := fun q => e (Int64.toInt_inj.mp q)
      exact ⟨by omega, by decide⟩
theorem g5_bm64 {z : Int} (h1 : -9223372036854775808 ≤ z) (h2 : z < 9223372036854775808) : z.bmod (2 ^ 64) = z := by
  rw [Int.bmod_def]; split <;> omega
theorem g5_lsub {x y : Int64} {a b : Int} (hx : x.toInt = a) (hy : y.toInt = b) (h1 : -9223372036854775808 ≤ a - b) (h2 : a - b < 9223372036854775808) : (x - y).toInt = a - b := by
  rw [Int64.toInt_sub, hx, hy]; exact g5_bm64 h1 h2
/-- what may stand at a place of the row -/
def rOK (j : Nat) (v : Int) : Prop := (j = 0 → 0 ≤ v ∧ v ≤ 6) ∧ (j = 1 → 0 ≤ v ∧ v ≤ 5) ∧ (j = 2 → 0 ≤ v ∧ v ≤ 6) ∧ (j = 3 → -1 ≤ v ∧ v ≤ 5) ∧ (j = 5 → 0 ≤ v ∧ v ≤ 10) ∧ (j = 6 → -1 ≤ v ∧ v ≤ 63) ∧ (j = 7 → 0 ≤ v ∧ v ≤ 8) ∧ (j = 8 → 0 ≤ v ∧ v ≤ 6) ∧ (80 ≤ j → j < 110 → (j - 80) % 5 = 0 → 0 ≤ v ∧ v ≤ 63) ∧ (80 ≤ j → j < 110 → (j - 80) % 5 = 1 → 0 ≤ v ∧ v ≤ 5) ∧ (80 ≤ j → j < 110 → (j - 80) % 5 = 2 → 0 ≤ v ∧ v ≤ 23) ∧ (80 ≤ j → j < 110 → (j - 80) % 5 = 3 → 0 ≤ v ∧ v ≤ 10) ∧ (230 ≤ j → j < 270 → (j - 230) % 4 = 0 → 0 ≤ v ∧ v ≤ 63) ∧ (230 ≤ j → j < 270 → (j - 230) % 4 = 1 → 0 ≤ v ∧ v ≤ 3) ∧ (230 ≤ j → j < 270 → (j - 230) % 4 = 2 → 0 ≤ v ∧ v ≤ 23) ∧ (230 ≤ j → j < 270 → (j - 230) % 4 = 3 → 0 ≤ v ∧ v ≤ 1) ∧ (270 ≤ j → j < 294 → (j - 270) % 3 = 0 → 0 ≤ v ∧ v ≤ 63) ∧ (270 ≤ j → j < 294 → (j - 270) % 3 = 1 → 0 ≤ v ∧ v ≤ 5) ∧ (270 ≤ j → j < 294 → (j - 270) % 3 = 2 → 0 ≤ v ∧ v ≤ 23) ∧ (300 ≤ j → j < 336 → (j - 300) % 6 = 0 → 0 ≤ v ∧ v ≤ 63) ∧ (300 ≤ j → j < 336 → (j - 300) % 6 = 1 → 0 ≤ v ∧ v ≤ 3) ∧ (300 ≤ j → j < 336 → (j - 300) % 6 = 2 → 0 ≤ v ∧ v ≤ 23) ∧ (110 ≤ j → j < 230 → -1 ≤ v ∧ v ≤ 63)
/-- a step of a law's code, with the height of what is reckoned ahead of it -/
def stOK (f : Nat → Int32) (B : Nat) (h : Nat → Nat) (k : Nat) (b : Int) : Prop := h k ≤ k ∧ ((0 ≤ (f (B + 2 * k)).toInt ∧ (f (B + 2 * k)).toInt ≤ 8 ∧ h (k + 1) = h k + 1) ∨ (20 ≤ (f (B + 2 * k)).toInt ∧ (f (B + 2 * k)).toInt ≤ 26 ∧ 2 ≤ h k ∧ h (k + 1) + 1 = h k) ∨ ((f (B + 2 * k)).toInt = 27 ∧ 1 ≤ h k ∧ h (k + 1) = h k) ∨ (((f (B + 2 * k)).toInt = 28 ∨ (f (B + 2 * k)).toInt = 29) ∧ 1 ≤ h k ∧ h (k + 1) + 1 = h k ∧ (k : Int) < (f (B + 2 * k + 1)).toInt ∧ (f (B + 2 * k + 1)).toInt ≤ 400 ∧ ((f (B + 2 * k + 1)).toInt < b → h (f (B + 2 * k + 1)).toInt.toNat = h k)))
def cdOK (f : Nat → Int32) (B : Nat) (a b : Int) : Prop := ∃ h : Nat → Nat, h a.toNat = 0 ∧ ∀ k : Nat, a ≤ (k : Int) → (k : Int) < b → stOK f B h k b
/-- a clause of the law at T -/
def clOK (f : Nat → Int32) (T k : Nat) : Prop := (0 ≤ (f k).toInt ∧ (f k).toInt ≤ 3) ∧ (0 ≤ (f (k + 3)).toInt ∧ (f (k + 3)).toInt ≤ 400) ∧ (0 ≤ (f (k + 4)).toInt ∧ (f (k + 4)).toInt ≤ 400) ∧ (0 ≤ (f (k + 5)).toInt ∧ (f (k + 5)).toInt ≤ 400) ∧ (0 ≤ (f (k + 6)).toInt ∧ (f (k + 6)).toInt ≤ 400) ∧ cdOK f (T + 98) (f (k + 5)).toInt (f (k + 6)).toInt ∧ ((f k).toInt < 2 → cdOK f (T + 98) (f (k + 3)).toInt (f (k + 4)).toInt)
def lawOK (f : Nat → Int32) (T : Nat) : Prop := (0 ≤ (f (T + 1)).toInt ∧ (f (T + 1)).toInt ≤ 12) ∧ ∀ c : Nat, (c : Int) < (f (T + 1)).toInt → clOK f T (T + 2 + 8 * c)
/-- the sightings that saw -/
def mSN (f : Nat → Int32) : Int := snS (fun j => f (230 + j)) (f 5).toInt (f 5).toInt.toNat
def MI (f : Nat → Int32) : Prop := (∀ j : Nat, rOK j (f j).toInt) ∧ mSN f ≤ 5 ∧ (f 3).toInt < (f 2).toInt ∧ ∀ l : Nat, (l : Int) < (f 2).toInt → lawOK f (340 + 900 * l)
theorem mi_0 {f : Nat → Int32} (h : MI f) : 0 ≤ (f 0).toInt ∧ (f 0).toInt ≤ 6 := (h.1 0).1 rfl
theorem mi_1 {f : Nat → Int32} (h : MI f) : 0 ≤ (f 1).toInt ∧ (f 1).toInt ≤ 5 := (h.1 1).2.1 rfl
theorem mi_2 {f : Nat → Int32} (h : MI f) : 0 ≤ (f 2).toInt ∧ (f 2).toInt ≤ 6 := (h.1 2).2.2.1 rfl
theorem mi_3 {f : Nat → Int32} (h : MI f) : (-1) ≤ (f 3).toInt ∧ (f 3).toInt ≤ 5 := (h.1 3).2.2.2.1 rfl
theorem mi_5 {f : Nat → Int32} (h : MI f) : 0 ≤ (f 5).toInt ∧ (f 5).toInt ≤ 10 := (h.1 5).2.2.2.2.1 rfl
theorem mi_6 {f : Nat → Int32} (h : MI f) : (-1) ≤ (f 6).toInt ∧ (f 6).toInt ≤ 63 := (h.1 6).2.2.2.2.2.1 rfl
theorem mi_7 {f : Nat → Int32} (h : MI f) : 0 ≤ (f 7).toInt ∧ (f 7).toInt ≤ 8 := (h.1 7).2.2.2.2.2.2.1 rfl
theorem mi_8 {f : Nat → Int32} (h : MI f) : 0 ≤ (f 8).toInt ∧ (f 8).toInt ≤ 6 := (h.1 8).2.2.2.2.2.2.2.1 rfl
theorem mi_80_0 {f : Nat → Int32} (h : MI f) {j : Nat} (h1 : 80 ≤ j) (h2 : j < 110) (h3 : (j - 80) % 5 = 0) : 0 ≤ (f j).toInt ∧ (f j).toInt ≤ 63 := (h.1 j).2.2.2.2.2.2.2.2.1 h1 h2 h3
theorem mi_80_1 {f : Nat → Int32} (h : MI f) {j : Nat} (h1 : 80 ≤ j) (h2 : j < 110) (h3 : (j - 80) % 5 = 1) : 0 ≤ (f j).toInt ∧ (f j).toInt ≤ 5 := (h.1 j).2.2.2.2.2.2.2.2.2.1 h1 h2 h3
theorem mi_80_2 {f : Nat → Int32} (h : MI f) {j : Nat} (h1 : 80 ≤ j) (h2 : j < 110) (h3 : (j - 80) % 5 = 2) : 0 ≤ (f j).toInt ∧ (f j).toInt ≤ 23 := (h.1 j).2.2.2.2.2.2.2.2.2.2.1 h1 h2 h3
theorem mi_80_3 {f : Nat → Int32} (h : MI f) {j : Nat} (h1 : 80 ≤ j) (h2 : j < 110) (h3 : (j - 80) % 5 = 3) : 0 ≤ (f j).toInt ∧ (f j).toInt ≤ 10 := (h.1 j).2.2.2.2.2.2.2.2.2.2.2.1 h1 h2 h3
theorem mi_230_0 {f : Nat → Int32} (h : MI f) {j : Nat} (h1 : 230 ≤ j) (h2 : j < 270) (h3 : (j - 230) % 4 = 0) : 0 ≤ (f j).toInt ∧ (f j).toInt ≤ 63 := (h.1 j).2.2.2.2.2.2.2.2.2.2.2.2.1 h1 h2 h3
theorem mi_230_1 {f : Nat → Int32} (h : MI f) {j : Nat} (h1 : 230 ≤ j) (h2 : j < 270) (h3 : (j - 230) % 4 = 1) : 0 ≤ (f j).toInt ∧ (f j).toInt ≤ 3 := (h.1 j).2.2.2.2.2.2.2.2.2.2.2.2.2.1 h1 h2 h3
theorem mi_230_2 {f : Nat → Int32} (h : MI f) {j : Nat} (h1 : 230 ≤ j) (h2 : j < 270) (h3 : (j - 230) % 4 = 2) : 0 ≤ (f j).toInt ∧ (f j).toInt ≤ 23 := (h.1 j).2.2.2.2.2.2.2.2.2.2.2.2.2.2.1 h1 h2 h3
theorem mi_230_3 {f : Nat → Int32} (h : MI f) {j : Nat} (h1 : 230 ≤ j) (h2 : j < 270) (h3 : (j - 230) % 4 = 3) : 0 ≤ (f j).toInt ∧ (f j).toInt ≤ 1 := (h.1 j).2.2.2.2.2.2.2.2.2.2.2.2.2.2.2.1 h1 h2 h3
theorem mi_270_1 {f : Nat → Int32} (h : MI f) {j : Nat} (h1 : 270 ≤ j) (h2 : j < 294) (h3 : (j - 270) % 3 = 1) : 0 ≤ (f j).toInt ∧ (f j).toInt ≤ 5 := (h.1 j).2.2.2.2.2.2.2.2.2.2.2.2.2.2.2.2.2.1 h1 h2 h3
theorem mi_270_2 {f : Nat → Int32} (h : MI f) {j : Nat} (h1 : 270 ≤ j) (h2 : j < 294) (h3 : (j - 270) % 3 = 2) : 0 ≤ (f j).toInt ∧ (f j).toInt ≤ 23 := (h.1 j).2.2.2.2.2.2.2.2.2.2.2.2.2.2.2.2.2.2.1 h1 h2 h3
theorem mi_300_0 {f : Nat → Int32} (h : MI f) {j : Nat} (h1 : 300 ≤ j) (h2 : j < 336) (h3 : (j - 300) % 6 = 0) : 0 ≤ (f j).toInt ∧ (f j).toInt ≤ 63 := (h.1 j).2.2.2.2.2.2.2.2.2.2.2.2.2.2.2.2.2.2.2.1 h1 h2 h3
theorem mi_300_1 {f : Nat → Int32} (h : MI f) {j : Nat} (h1 : 300 ≤ j) (h2 : j < 336) (h3 : (j - 300) % 6 = 1) : 0 ≤ (f j).toInt ∧ (f j).toInt ≤ 3 := (h.1 j).2.2.2.2.2.2.2.2.2.2.2.2.2.2.2.2.2.2.2.2.1 h1 h2 h3
theorem mi_300_2 {f : Nat → Int32} (h : MI f) {j : Nat} (h1 : 300 ≤ j) (h2 : j < 336) (h3 : (j - 300) % 6 = 2) : 0 ≤ (f j).toInt ∧ (f j).toInt ≤ 23 := (h.1 j).2.2.2.2.2.2.2.2.2.2.2.2.2.2.2.2.2.2.2.2.2.1 h1 h2 h3
theorem mi_110 {f : Nat → Int32} (h : MI f) {j : Nat} (h1 : 110 ≤ j) (h2 : j < 230) : (-1) ≤ (f j).toInt ∧ (f j).toInt ≤ 63 := (h.1 j).2.2.2.2.2.2.2.2.2.2.2.2.2.2.2.2.2.2.2.2.2.2 h1 h2
theorem stOK_congr {f g : Nat → Int32} {B : Nat} {h : Nat → Nat} {k : Nat} {b : Int} (e : ∀ j : Nat, B ≤ j → g j = f j) (q : stOK f B h k b) : stOK g B h k b := by
  unfold stOK at q ⊢
  rw [e (B + 2 * k) (by omega), e (B + 2 * k + 1) (by omega)]; exact q
theorem cdOK_congr {f g : Nat → Int32} {B : Nat} {a b : Int} (e : ∀ j : Nat, B ≤ j → g j = f j) (q : cdOK f B a b) : cdOK g B a b := by
  obtain ⟨h, h0, h1⟩ := q
  exact ⟨h, h0, fun k x y => stOK_congr e (h1 k x y)⟩
theorem clOK_congr {f g : Nat → Int32} {T k : Nat} (hk : T ≤ k) (e : ∀ j : Nat, T ≤ j → g j = f j) (q : clOK f T k) : clOK g T k := by
  unfold clOK at q ⊢
  obtain ⟨c0, c3, c4, c5, c6, d1, d2⟩ := q
  rw [e k (by omega), e (k + 3) (by omega), e (k + 4) (by omega), e (k + 5) (by omega), e (k + 6) (by omega)]
  exact ⟨c0, c3, c4, c5, c6, cdOK_congr (fun j hj => e j (by omega)) d1, fun y => cdOK_congr (fun j hj => e j (by omega)) (d2 y)⟩
theorem lawOK_congr {f g : Nat → Int32} {T : Nat} (e : ∀ j : Nat, T ≤ j → g j = f j) (q : lawOK f T) : lawOK g T := by
  unfold lawOK at q ⊢
  rw [e (T + 1) (by omega)]
  exact ⟨q.1, fun c hc => clOK_congr (by omega) e (q.2 c hc)⟩
theorem mSN_congr {f g : Nat → Int32} (e5 : g 5 = f 5) (e : ∀ j : Nat, 230 ≤ j → j < 270 → g j = f j) (h5 : (f 5).toInt ≤ 10) : mSN g = mSN f := by
  unfold mSN
  rw [e5]
  refine sg_sn _ (fun j hj => ?_)
  have z3 : (3 : Int32).toInt = 3 := (by decide)
  rw [z3]
  unfold tget
  by_cases q : 0 ≤ (j : Int) ∧ (j : Int) < (f 5).toInt ∧ (0 : Int) ≤ 3 ∧ (3 : Int) < 4
  · rw [if_pos q, if_pos q]; exact e _ (by omega) (by omega)
  · rw [if_neg q, if_neg q]
/-- a place that neither counts sightings nor laws -/
theorem mi_upd {f : Nat → Int32} {i : Nat} {v : Int32} (h : MI f) (hv : rOK i v.toInt) (hi : i < 340) (h5 : i ≠ 5) (h2 : i ≠ 2) (h3 : i ≠ 3) (hs : i < 230 ∨ 270 ≤ i) : MI (upd f i v) := by
  have u : ∀ j : Nat, j ≠ i → upd f i v j = f j := fun j hj => by unfold upd; rw [if_neg hj]
  refine ⟨fun j => ?_, ?_, ?_, fun l hl => ?_⟩
  · by_cases e : j = i
    · subst e
      have z : upd f j v j = v := by unfold upd; rw [if_pos rfl]
      rw [z]; exact hv
    · rw [u j e]; exact h.1 j
  · rw [mSN_congr (u 5 (Ne.symm h5)) (fun j a b => u j (by omega)) (by have z := (h.1 5).2.2.2.2.1 rfl; omega)]
    exact h.2.1
  · rw [u 3 (Ne.symm h3), u 2 (Ne.symm h2)]; exact h.2.2.1
  · rw [u 2 (Ne.symm h2)] at hl
    exact lawOK_congr (fun j hj => u j (by omega)) (h.2.2.2 l hl)
theorem g_a255 (x : Int32) : 0 ≤ (x &&& 255).toInt ∧ (x &&& 255).toInt ≤ 255 := by
  have h2 : (x &&& 255).toBitVec.toNat = x.toBitVec.toNat % 2 ^ 8 := by
    rw [Int32.toBitVec_and, BitVec.toNat_and, show (255 : Int32).toBitVec.toNat = 2 ^ 8 - 1 from by decide, Nat.and_two_pow_sub_one_eq_mod]
  have h3 : (x &&& 255).toInt = ((x &&& 255).toBitVec.toNat : Int) := by
    show (x &&& 255).toBitVec.toInt = _
    rw [BitVec.toInt_eq_toNat_cond, if_pos]
    rw [h2]; omega
  rw [h3, h2]; omega
theorem tp_upd {f : Nat → Int32} {i : Nat} {v : Int32} (h : TPI f) (hv : 0 ≤ v.toInt ∧ v.toInt ≤ 255) : TPI (upd f i v) := by
  intro j
  unfold upd
  by_cases e : j = i
  · rw [if_pos e]; exact hv
  · rw [if_neg e]; exact h j
theorem pt_upd {f : Nat → Int32} {i : Nat} {v : Int32} (h : PTI f) (hv : 0 ≤ v.toInt ∧ v.toInt ≤ 1535) : PTI (upd f i v) := by
  intro j
  unfold upd
  by_cases e : j = i
  · rw [if_pos e]; exact hv
  · rw [if_neg e]; exact h j
theorem g_l2i {x : Int64} {m : Int32} (h0 : 0 ≤ (lg_cmp x 0).toInt) (h1 : (lg_cmp x m.toInt64).toInt ≤ 0) : 0 ≤ x.toInt32.toInt ∧ x.toInt32.toInt ≤ m.toInt := by
  have a := g5_cmpI x 0
  have b := g5_cmpI x m.toInt64
  have z : (0 : Int64).toInt = 0 := by decide
  have e : m.toInt64.toInt = m.toInt := Int32.toInt_toInt64 m
  have r := g5_rg m
  have q : x.toInt32.toInt = x.toInt := by
    rw [Int64.toInt_toInt32]; exact g5_bm (by omega) (by omega)
  omega
theorem g_clk {x y : Int32} {n : Nat} (hy : y.toInt = (n : Int)) (h0 : 0 ≤ x.toInt) (h1 : x.toInt ≤ 100000) (hn : n ≤ 100000) : (x + y).toNatClampNeg = x.toNatClampNeg + n := by
  have a := g5_iadd (x := x) (y := y) (a := x.toInt) (b := (n : Int)) rfl hy (by omega) (by omega)
  have b := g5_clamp (x + y)
  have c := g5_clamp x
  omega
theorem g_nb {v : Int32} (h0 : 0 ≤ v.toInt) (h1 : v.toInt ≤ 1) : narrow .boolean (.int v) = .int v := by
  rcases (show v.toInt = 0 ∨ v.toInt = 1 by omega) with h | h
  · rw [g5_toc (k := 0) (n := 0) (by decide) h]; rfl
  · rw [g5_toc (k := 1) (n := 1) (by decide) h]; rfl
theorem me_upd {f : Nat → Int32} {i : Nat} {v : Int32} (h : MEI f) (hv : 0 ≤ v.toInt ∧ (v.toInt < 32 ∨ 64 ≤ v.toInt) ∧ v.toInt ≤ 127) : MEI (upd f i v) := by
  intro j
  unfold upd
  by_cases e : j = i
  · rw [if_pos e]; exact hv
  · rw [if_neg e]; exact h j
theorem me_or64N : ∀ x : Nat, x < 128 → 64 ≤ (nI x ||| 64).toInt ∧ (nI x ||| 64).toInt ≤ 127 := by decide +kernel
theorem me_or64 {x : Int32} (h : 0 ≤ x.toInt ∧ (x.toInt < 32 ∨ 64 ≤ x.toInt) ∧ x.toInt ≤ 127) : 0 ≤ (x ||| 64).toInt ∧ ((x ||| 64).toInt < 32 ∨ 64 ≤ (x ||| 64).toInt) ∧ (x ||| 64).toInt ≤ 127 := by
  have q := me_or64N x.toInt.toNat (by omega)
  rw [← g5_nI h.1] at q
  omega
theorem me_or1N : ∀ n : Nat, n < 5 → ∀ x : Nat, x < 128 → (x < 32 → 0 ≤ (nI x ||| ((1 : Int32) <<< (nI n &&& 31))).toInt ∧ (nI x ||| ((1 : Int32) <<< (nI n &&& 31))).toInt < 32) ∧ (64 ≤ x → 64 ≤ (nI x ||| ((1 : Int32) <<< (nI n &&& 31))).toInt ∧ (nI x ||| ((1 : Int32) <<< (nI n &&& 31))).toInt ≤ 127) := by decide +kernel
theorem me_or1 {x n : Int32} (h : 0 ≤ x.toInt ∧ (x.toInt < 32 ∨ 64 ≤ x.toInt) ∧ x.toInt ≤ 127) (hn : 0 ≤ n.toInt ∧ n.toInt < 5) : 0 ≤ (x ||| ((1 : Int32) <<< (n &&& 31))).toInt ∧ ((x ||| ((1 : Int32) <<< (n &&& 31))).toInt < 32 ∨ 64 ≤ (x ||| ((1 : Int32) <<< (n &&& 31))).toInt) ∧ (x ||| ((1 : Int32) <<< (n &&& 31))).toInt ≤ 127 := by
  have q := me_or1N n.toInt.toNat (by omega) x.toInt.toNat (by omega)
  rw [← g5_nI h.1, ← g5_nI hn.1] at q
  rcases h.2.1 with z | z
  · have y := q.1 (by omega); omega
  · have y := q.2 (by omega); omega
theorem me_low {x y : Int32} (hx : 0 ≤ x.toInt ∧ x.toInt < 32) (hy : 0 ≤ y.toInt ∧ y.toInt < 32) : 0 ≤ (x ||| y).toInt ∧ (x ||| y).toInt < 32 := by
  have q := tk_orN 5 (by decide) x.toInt.toNat (by show x.toInt.toNat < 32; omega) y.toInt.toNat (by show y.toInt.toNat < 32; omega)
  rw [← g5_nI hx.1, ← g5_nI hy.1] at q
  exact ⟨q.1, by have z : ((2 ^ 5 : Nat) : Int) = 32 := (by decide); omega⟩
