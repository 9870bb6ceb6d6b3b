theorem g5_cvJ {D : va_G} {cl : List vw_C} {A : Nat → Prop} {ws : va_W} {H : Heap} {a n : Nat} {cA : ClassId} {f g : Nat → Int64} (hP : va_P D cl ws H) (hD : va_D A ws) (q0 : Nat) (ha : ws[q0]? = some (a, .inl (cA, n, .inr (.inl f)))) (h : ∀ j : Nat, j < n → f j = g j) : va_P D cl (ws.set q0 (a, .inl (cA, n, .inr (.inl g)))) H ∧ va_D A (ws.set q0 (a, .inl (cA, n, .inr (.inl g)))) := by
  refine ⟨hP.set hD ha ?_ (fun _ _ => rfl), hD.set ha⟩
  have h1 : H[a]? = some (vp_cell cA (n, .inr (.inl f))) := hP q0 _ ha
  show H[a]? = some (vp_cell cA (n, .inr (.inl g)))
  rw [h1, vp_cell_l, vp_cell_l]
  congr 1
  unfold arrV
  congr 1
  apply Array.ext
  · simp
  · intro i hi1 hi2
    simp only [Array.getElem_ofFn]
    rw [h i (by simpa using hi1)]
theorem g5_cvI {D : va_G} {cl : List vw_C} {A : Nat → Prop} {ws : va_W} {H : Heap} {a n : Nat} {cA : ClassId} {f g : Nat → Int32} (hP : va_P D cl ws H) (hD : va_D A ws) (q0 : Nat) (ha : ws[q0]? = some (a, .inl (cA, n, .inl f))) (h : ∀ j : Nat, j < n → f j = g j) : va_P D cl (ws.set q0 (a, .inl (cA, n, .inl g))) H ∧ va_D A (ws.set q0 (a, .inl (cA, n, .inl g))) := by
  refine ⟨hP.set hD ha ?_ (fun _ _ => rfl), hD.set ha⟩
  have h1 : H[a]? = some (vp_cell cA (n, .inl f)) := hP q0 _ ha
  show H[a]? = some (vp_cell cA (n, .inl g))
  rw [h1, vp_cell_i, vp_cell_i]
  congr 1
  unfold arrV
  congr 1
  apply Array.ext
  · simp
  · intro i hi1 hi2
    simp only [Array.getElem_ofFn]
    rw [h i (by simpa using hi1)]
theorem ts_bit {w : Int64} {s : UInt64} {j : Nat} (hj : j < 64) (hs : s.toNat = j) : ((w.toUInt64 >>> s).toInt64 &&& 1) = 0 ↔ w.toBitVec.getLsbD j = false := by
  have e : (w.toUInt64 >>> s).toInt64.toBitVec = w.toBitVec >>> j := by
    apply BitVec.eq_of_toNat_eq
    show (w.toUInt64 >>> s).toNat = _
    rw [UInt64.toNat_shiftRight, hs, Nat.mod_eq_of_lt hj, BitVec.toNat_ushiftRight]
    rfl
  rw [← Int64.toBitVec_inj, Int64.toBitVec_and, e]
  show w.toBitVec >>> j &&& 1#64 = 0#64 ↔ _
  constructor
  · intro h
    have t := congrArg (fun x => x.getLsbD 0) h
    simpa using t
  · intro h
    apply BitVec.eq_of_getLsbD_eq
    intro i hi
    cases i with
    | zero => simp [h]
    | succ i => simp
/-- a bit of a board -/
def onB (b : Int64) (c : Int) : Bool := b.toBitVec.getLsbD c.toNat
theorem g5_k63 : ∀ k, k < 64 → ((nI k).toInt64.toUInt64 &&& Int64.toUInt64 63).toNat = k := by decide +kernel
theorem g5_nI {x : Int32} (h : 0 ≤ x.toInt) : x = nI x.toInt.toNat := by
  have h1 := g5_nn rfl h
  have h2 := g5_rg x
  have h3 : x.toInt = (x.toBitVec.toNat : Int) := h1
  apply Int32.toInt_inj.mp
  unfold nI
  rw [Int32.toInt_ofNat']
  rw [g5_bm] <;> omega
theorem g5_on {b : Int64} {c : Int32} (h0 : 0 ≤ c.toInt) (h1 : c.toInt ≤ 63) : ((b.toUInt64 >>> (c.toInt64.toUInt64 &&& Int64.toUInt64 63)).toInt64 &&& 1) = 0 ↔ onB b c.toInt = false := by
  refine ts_bit (j := c.toInt.toNat) (by omega) ?_
  conv => lhs; rw [g5_nI h0]
  exact g5_k63 _ (by omega)
theorem g5_cmp0 {x : Int64} (h : (lg_cmp x 0).toInt = 0) : x = 0 := by
  unfold lg_cmp at h
  split at h
  · exact absurd h (by decide)
  · split at h
    · assumption
    · exact absurd h (by decide)
theorem g5_cmp1 {x : Int64} (h : (lg_cmp x 0).toInt ≠ 0) : x ≠ 0 := by
  intro e; subst e; exact h (by decide)
theorem g5_onT {b : Int64} {c : Int32} (h0 : 0 ≤ c.toInt) (h1 : c.toInt ≤ 63) (h : (lg_cmp ((b.toUInt64 >>> (c.toInt64.toUInt64 &&& Int64.toUInt64 63)).toInt64 &&& 1) 0).toInt ≠ 0) : onB b c.toInt = true := by
  cases e : onB b c.toInt
  · exact absurd ((g5_on h0 h1).mpr e) (g5_cmp1 h)
  · rfl
theorem g5_onF {b : Int64} {c : Int32} (h0 : 0 ≤ c.toInt) (h1 : c.toInt ≤ 63) (h : (lg_cmp ((b.toUInt64 >>> (c.toInt64.toUInt64 &&& Int64.toUInt64 63)).toInt64 &&& 1) 0).toInt = 0) : onB b c.toInt = false := (g5_on h0 h1).mp (g5_cmp0 h)
/-! rows of a thief, masks left out -/
def psum (f : Nat → Int64) (c : Int) : Nat → Int64
  | 0 => 0
  | w + 1 => if bs c w = -1 then psum f c w else psum f c w + f (bs c w).toNat
def stepF (f : Nat → Int64) (b : Int64) (j : Nat) : Int64 := if onB b j = true then 0 else psum f j 5
def iniF (b : Int64) (j : Nat) : Int64 := if onB b j = true then 0 else 1
def itF (b : Nat → Int64) : Nat → Nat → Int64
  | 0 => iniF (b 0)
  | h + 1 => stepF (itF b h) (b (h + 1))
def sumF (f : Nat → Int64) : Nat → Int64
  | 0 => 0
  | n + 1 => sumF f n + f n
def cntF (b : Nat → Int64) : Int64 := sumF (itF b 23) 64
theorem bs_lo {c w : Int} (h0 : 0 ≤ c) (h1 : c ≤ 63) : -1 ≤ bs c w ∧ bs c w ≤ 63 := by unfold bs; omega
theorem psum_congr {f g : Nat → Int64} (h : ∀ j : Nat, j < 64 → f j = g j) {c : Int} (h0 : 0 ≤ c) (h1 : c ≤ 63) : ∀ w : Nat, psum f c w = psum g c w := by
  intro w
  induction w with
  | zero => rfl
  | succ w ih =>
    unfold psum
    rw [ih]
    have := bs_lo (w := w) h0 h1
    split
    · rfl
    · rw [h _ (by omega)]
theorem stepF_congr {f g : Nat → Int64} (h : ∀ j : Nat, j < 64 → f j = g j) (b : Int64) {j : Nat} (hj : j < 64) : stepF f b j = stepF g b j := by
  unfold stepF; rw [psum_congr h (by omega) (by omega)]
theorem sumF_congr {f g : Nat → Int64} {n : Nat} (h : ∀ j : Nat, j < n → f j = g j) : sumF f n = sumF g n := by
  induction n with
  | zero => rfl
  | succ n ih => unfold sumF; rw [ih (fun j hj => h j (by omega)), h n (by omega)]
theorem g5_clamp (x : Int32) : x.toNatClampNeg = x.toInt.toNat := rfl
/-- the next place of a row that is filled from the left -/
theorem g5_fillJ {f X : Nat → Int64} {k k' : Int32} {v : Int64} (ih : ∀ j : Nat, (j : Int) < k.toInt → f j = X j) (h0 : 0 ≤ k.toInt) (h1 : k'.toInt = k.toInt + 1) (h2 : v = X k.toInt.toNat) : ∀ j : Nat, (j : Int) < k'.toInt → vp_updL f k.toNatClampNeg v j = X j := by
  intro j hj
  have e := g5_clamp k
  unfold vp_updL
  by_cases hjk : j = k.toNatClampNeg
  · rw [if_pos hjk, h2, hjk, e]
  · rw [if_neg hjk]; exact ih j (by omega)
theorem g5_fillI {f X : Nat → Int32} {k k' : Int32} {v : Int32} (ih : ∀ j : Nat, (j : Int) < k.toInt → f j = X j) (h0 : 0 ≤ k.toInt) (h1 : k'.toInt = k.toInt + 1) (h2 : v = X k.toInt.toNat) : ∀ j : Nat, (j : Int) < k'.toInt → upd f k.toNatClampNeg v j = X j := by
  intro j hj
  have e := g5_clamp k
  unfold upd
  by_cases hjk : j = k.toNatClampNeg
  · rw [if_pos hjk, h2, hjk, e]
  · rw [if_neg hjk]; exact ih j (by omega)
theorem g5_keepJ {f X : Nat → Int64} {k : Int32} {v : Int64} (ih : ∀ j : Nat, (j : Int) < k.toInt → f j = X j) : ∀ j : Nat, (j : Int) < k.toInt → vp_updL f k.toNatClampNeg v j = X j := by
  intro j hj
  have e := g5_clamp k
  unfold vp_updL
  rw [if_neg (by omega)]; exact ih j hj
theorem g5_atJ {f : Nat → Int64} {k : Int32} {v : Int64} : vp_updL f k.toNatClampNeg v k.toInt.toNat = v := by
  unfold vp_updL; rw [if_pos (g5_clamp k).symm]
theorem g5_ps0 {f : Nat → Int64} {c : Int} {w w' r : Int32} {x : Int64} (h : x = psum f c w.toInt.toNat) (h0 : 0 ≤ w.toInt) (h1 : w'.toInt = w.toInt + 1) (hr : r.toInt = bs c w.toInt) (hb : r.toInt = -1) : x = psum f c w'.toInt.toNat := by
  have e : w'.toInt.toNat = w.toInt.toNat + 1 := by omega
  have e2 : ((w.toInt.toNat : Nat) : Int) = w.toInt := by omega
  rw [e]; unfold psum; rw [e2, if_pos (by omega)]; exact h
theorem g5_ps1 {f g : Nat → Int64} {c : Int} {k w w' r : Int32} (h : g k.toInt.toNat = psum f c w.toInt.toNat) (h0 : 0 ≤ w.toInt) (h1 : w'.toInt = w.toInt + 1) (hr : r.toInt = bs c w.toInt) (hb : r.toInt ≠ -1) : vp_updL g k.toNatClampNeg (g k.toNatClampNeg + f r.toNatClampNeg) k.toInt.toNat = psum f c w'.toInt.toNat := by
  have e : w'.toInt.toNat = w.toInt.toNat + 1 := by omega
  have e2 : ((w.toInt.toNat : Nat) : Int) = w.toInt := by omega
  rw [g5_atJ, e]; unfold psum; rw [e2, if_neg (by omega), ← h, ← hr]; rfl
/-- a row of a step is done -/
theorem g5_row1 {f g : Nat → Int64} {b : Int64} {k k' w : Int32} (ih : ∀ j : Nat, (j : Int) < k.toInt → g j = stepF f b j) (h0 : 0 ≤ k.toInt) (h1 : k'.toInt = k.toInt + 1) (h : g k.toInt.toNat = psum f k.toInt w.toInt.toNat) (hw : (w.toInt = 5 ∧ onB b k.toInt = false) ∨ (w.toInt = 0 ∧ onB b k.toInt = true)) : ∀ j : Nat, (j : Int) < k'.toInt → g j = stepF f b j := by
  intro j hj
  by_cases hjk : (j : Int) < k.toInt
  · exact ih j hjk
  · have e : (j : Int) = k.toInt := by omega
    have e3 : j = k.toInt.toNat := by omega
    subst e3
    unfold stepF
    rw [h, e]
    rcases hw with ⟨a, b⟩ | ⟨a, b⟩
    · rw [if_neg (by rw [b]; decide), a]; rfl
    · rw [if_pos b, a]; rfl
theorem g5_it {b f g : Nat → Int64} {n n1 : Nat} {h : Int32} (e1 : h.toInt = (n1 : Int)) (e2 : n1 = n + 1) (hI : ∀ j : Nat, j < 64 → f j = itF b n j) (hg : ∀ j : Nat, j < 64 → g j = stepF f (b h.toNatClampNeg) j) : ∀ j : Nat, j < 64 → g j = itF b n1 j := by
  intro j hj
  have e : h.toNatClampNeg = n1 := by rw [g5_clamp]; omega
  rw [hg j hj, e, stepF_congr hI _ hj, e2]; rfl
theorem g5_or1 {x : Int32} (h0 : 0 ≤ x.toInt) (h1 : x.toInt ≤ 1) : x ||| 1 = 1 := by
  rcases (show x.toInt = 0 ∨ x.toInt = 1 by omega) with h | h
  · rw [g5_toc (k := 0) (n := 0) (by decide) h]; decide
  · rw [g5_toc (k := 1) (n := 1) (by decide) h]; decide
theorem g5_ini1 {b : Int64} {k : Int32} (h0 : 0 ≤ k.toInt) (h : onB b k.toInt = true) : (0 : Int64) = iniF b k.toInt.toNat := by
  unfold iniF; rw [if_pos (by rw [Int.toNat_of_nonneg h0]; exact h)]
theorem g5_ini0 {b : Int64} {k : Int32} (h0 : 0 ≤ k.toInt) (h : onB b k.toInt = false) : (1 : Int64) = iniF b k.toInt.toNat := by
  unfold iniF; rw [if_neg (by rw [Int.toNat_of_nonneg h0, h]; decide)]
theorem g5_sum {f : Nat → Int64} {x : Int64} {k k' : Int32} (h : x = sumF f k.toInt.toNat) (h0 : 0 ≤ k.toInt) (h1 : k'.toInt = k.toInt + 1) : x + f k.toNatClampNeg = sumF f k'.toInt.toNat := by
  have e : k'.toInt.toNat = k.toInt.toNat + 1 := by omega
  rw [e]; unfold sumF; rw [h, g5_clamp]
theorem g5_cnt {b f : Nat → Int64} {x : Int64} {k : Int32} (h : x = sumF f k.toInt.toNat) (hk : k.toInt = 64) (hF : ∀ j : Nat, j < 64 → f j = itF b 23 j) : x = cntF b := by
  unfold cntF; rw [h, hk]; exact sumF_congr hF
/-- the lowest n bits -/
def fullN : Nat → Int64
  | 0 => 0
  | n + 1 => fullN n ||| ((1 : Int64) <<< ((nI n).toInt64 &&& 63))
theorem g5_full {x : Int64} {k k' : Int32} (h : x = fullN k.toInt.toNat) (h0 : 0 ≤ k.toInt) (h1 : k'.toInt = k.toInt + 1) : x ||| ((1 : Int64) <<< (k.toInt64 &&& 63)) = fullN k'.toInt.toNat := by
  have e : k'.toInt.toNat = k.toInt.toNat + 1 := by omega
  rw [e]; unfold fullN; rw [h, ← g5_nI h0]
theorem g5_full64 {x : Int64} {k : Int32} (h : x = fullN k.toInt.toNat) (hk : k.toInt = 64) : x = -1 := by
  rw [h, hk]; decide
/-- the cells of a look over an empty house, each way -/
def gW (w : Nat) (c : Int) (j : Nat) : Int := if w = 0 then c - 8 * ((j : Int) + 1) else if w = 1 then c + ((j : Int) + 1) else if w = 2 then c + 8 * ((j : Int) + 1) else c - ((j : Int) + 1)
def nW (w : Nat) (c : Int) : Int := if w = 0 then c / 8 else if w = 1 then 7 - c % 8 else if w = 2 then 7 - c / 8 else c % 8
def bitI (c : Int) : Int64 := (1 : Int64) <<< ((nI c.toNat).toInt64 &&& 63)
def rayN (b0 : Int64) (g : Nat → Int) : Nat → Int64
  | 0 => b0
  | n + 1 => rayN b0 g n ||| bitI (g n)
theorem g5_ray {b0 x : Int64} {g : Nat → Int} {i i' v : Int32} (h : x = rayN b0 g i.toInt.toNat) (h0 : 0 ≤ i.toInt) (h1 : i'.toInt = i.toInt + 1) (hv : v.toInt = g i.toInt.toNat) (h2 : 0 ≤ v.toInt) : x ||| ((1 : Int64) <<< (v.toInt64 &&& 63)) = rayN b0 g i'.toInt.toNat := by
  have e : i'.toInt.toNat = i.toInt.toNat + 1 := by omega
  rw [e]; unfold rayN bitI; rw [h, ← hv, ← g5_nI h2]
def litB (c : Int) : Int64 := rayN (rayN (rayN (rayN 0 (gW 0 c) (nW 0 c).toNat) (gW 1 c) (nW 1 c).toNat) (gW 2 c) (nW 2 c).toNat) (gW 3 c) (nW 3 c).toNat
theorem g5_bar0 {f : Nat → Int64} {h : Nat} {g : Nat → Int} {k : Int32} (hk : k.toInt = 0) : ∀ j : Nat, f j = vp_updL f h (rayN (f h) g k.toInt.toNat) j := by
  intro j; rw [hk]; unfold vp_updL; split
  · rename_i e; subst e; rfl
  · rfl
theorem g5_bar {f k : Nat → Int64} {h : Nat} {g : Nat → Int} {i i' v x : Int32} (ih : ∀ j : Nat, k j = vp_updL f h (rayN (f h) g i.toInt.toNat) j) (h0 : 0 ≤ i.toInt) (h1 : i'.toInt = i.toInt + 1) (hx : x.toInt = (h : Int)) (hv : v.toInt = g i.toInt.toNat) (h2 : 0 ≤ v.toInt) : ∀ j : Nat, vp_updL k x.toNatClampNeg (k x.toNatClampNeg ||| ((1 : Int64) <<< (v.toInt64 &&& 63))) j = vp_updL f h (rayN (f h) g i'.toInt.toNat) j := by
  intro j
  have ex : x.toNatClampNeg = h := by rw [g5_clamp]; omega
  rw [ex]
  have e0 : k h = rayN (f h) g i.toInt.toNat := by rw [ih h]; unfold vp_updL; rw [if_pos rfl]
  unfold vp_updL
  by_cases hj : j = h
  · rw [if_pos hj, if_pos hj, e0]; exact g5_ray rfl h0 h1 hv h2
  · rw [if_neg hj, if_neg hj, ih j]; unfold vp_updL; rw [if_neg hj]
theorem g5_ray0 {b0 x : Int64} {g : Nat → Int} (h : x = b0) : x = rayN b0 g (0 : Int32).toInt.toNat := by
  rw [show (0 : Int32).toInt.toNat = 0 from by decide]; exact h
