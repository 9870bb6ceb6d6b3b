/-! marks of points over an empty house -/
def ptF (f0 : Nat → Int32) (h : Int) (g : Nat → Int) : Nat → Nat → Int32
  | 0 => f0
  | n + 1 => upd (ptF f0 h g n) (h * 64 + g n).toNat 1
theorem g5_ptF0 {f f0 : Nat → Int32} {h : Int} {g : Nat → Int} (e : f = f0) : f = ptF f0 h g (0 : Int32).toInt.toNat := by
  rw [show (0 : Int32).toInt.toNat = 0 from by decide]; exact e
theorem g5_ptF {f f0 : Nat → Int32} {h : Int} {g : Nat → Int} {i i' x : Int32} (ih : f = ptF f0 h g i.toInt.toNat) (h0 : 0 ≤ i.toInt) (h1 : i'.toInt = i.toInt + 1) (hx : x.toInt = h * 64 + g i.toInt.toNat) : upd f x.toNatClampNeg 1 = ptF f0 h g i'.toInt.toNat := by
  have e : i'.toInt.toNat = i.toInt.toNat + 1 := by omega
  rw [e]; unfold ptF; rw [← ih, g5_clamp, hx]
def litM (c h : Int) : Nat → Int32 := ptF (ptF (ptF (ptF (fun _ => 0) h (gW 0 c) (nW 0 c).toNat) h (gW 1 c) (nW 1 c).toNat) h (gW 2 c) (nW 2 c).toNat) h (gW 3 c) (nW 3 c).toNat
def anyF (f : Nat → Int32) (c : Nat) : Nat → Bool
  | 0 => false
  | n + 1 => anyF f c n || decide ((f (64 * n + c)).toInt ≠ 0)
def cntM (f : Nat → Int32) (w : Int) : Nat → Int
  | 0 => 0
  | c + 1 => cntM f w c + (if anyF f c 24 = true ∧ (w = -1 ∨ w = (c : Int)) then 1 else 0)
def b01 (b : Bool) : Int := if b = true then 1 else 0
theorem g5_any1 {f : Nat → Int32} {c h h' : Int32} {a x : Int32} (ih : a.toInt = b01 (anyF f c.toInt.toNat h.toInt.toNat)) (h0 : 0 ≤ h.toInt) (h1 : h'.toInt = h.toInt + 1) (ha : a.toInt ≠ 0 ∨ (∃ y : Int32, y.toInt = 64 * h.toInt + c.toInt ∧ 0 ≤ c.toInt ∧ (f y.toNatClampNeg).toInt ≠ 0)) (hx : x.toInt = 1) : x.toInt = b01 (anyF f c.toInt.toNat h'.toInt.toNat) := by
  have e : h'.toInt.toNat = h.toInt.toNat + 1 := by omega
  rw [e, hx]; unfold anyF
  rcases ha with ha | ⟨y, hy, hc, ha⟩
  · unfold b01 at ih ⊢
    have : anyF f c.toInt.toNat h.toInt.toNat = true := by
      cases q : anyF f c.toInt.toNat h.toInt.toNat
      · rw [q] at ih; simp at ih; omega
      · rfl
    rw [this]; simp
  · have e2 : 64 * h.toInt.toNat + c.toInt.toNat = y.toNatClampNeg := by rw [g5_clamp]; omega
    rw [e2]; unfold b01
    have : decide ((f y.toNatClampNeg).toInt ≠ 0) = true := by simpa using ha
    rw [this]; simp
theorem g5_any0 {f : Nat → Int32} {c h h' y : Int32} {a x : Int32} (ih : a.toInt = b01 (anyF f c.toInt.toNat h.toInt.toNat)) (h0 : 0 ≤ h.toInt) (h1 : h'.toInt = h.toInt + 1) (ha : a.toInt = 0) (hy : y.toInt = 64 * h.toInt + c.toInt) (hc : 0 ≤ c.toInt) (hf : (f y.toNatClampNeg).toInt = 0) (hx : x.toInt = 0) : x.toInt = b01 (anyF f c.toInt.toNat h'.toInt.toNat) := by
  have e : h'.toInt.toNat = h.toInt.toNat + 1 := by omega
  have e2 : 64 * h.toInt.toNat + c.toInt.toNat = y.toNatClampNeg := by rw [g5_clamp]; omega
  rw [e, hx]; unfold anyF; rw [e2, hf]
  unfold b01 at ih ⊢
  cases q : anyF f c.toInt.toNat h.toInt.toNat
  · simp
  · rw [q] at ih; simp at ih; omega
theorem g5_cntM {f : Nat → Int32} {w : Int} {c c' a n n' : Int32} (ih : n.toInt = cntM f w c.toInt.toNat) (h0 : 0 ≤ c.toInt) (h1 : c'.toInt = c.toInt + 1) {h : Int32} (hh : h.toInt = 24) (ha : a.toInt = b01 (anyF f c.toInt.toNat h.toInt.toNat)) (hn : (a.toInt ≠ 0 ∧ (w = -1 ∨ w = c.toInt) ∧ n'.toInt = n.toInt + 1) ∨ ((a.toInt = 0 ∨ (w ≠ -1 ∧ w ≠ c.toInt)) ∧ n'.toInt = n.toInt)) : n'.toInt = cntM f w c'.toInt.toNat := by
  have e : c'.toInt.toNat = c.toInt.toNat + 1 := by omega
  rw [e]; unfold cntM
  rw [← ih]
  have hc : ((c.toInt.toNat : Nat) : Int) = c.toInt := by omega
  rw [hc]
  rw [hh, show Int.toNat 24 = 24 from rfl] at ha
  unfold b01 at ha
  rcases hn with ⟨p, q, r⟩ | ⟨p, r⟩
  · rw [if_pos ⟨by
      cases z : anyF f c.toInt.toNat 24
      · rw [z] at ha; simp at ha; omega
      · rfl, q⟩]; exact r
  · rw [if_neg (by
      rintro ⟨x, y⟩
      rw [x] at ha; simp at ha; omega), r]; omega
theorem bitI_nat (c : Nat) (h : c < 64) : (bitI c).toBitVec = BitVec.twoPow 64 c := by
  have : ∀ k : Nat, k < 64 → (bitI k).toBitVec = BitVec.twoPow 64 k := by decide +kernel
  exact this c h
theorem onB_or (b : Int64) {c x : Int} (h0 : 0 ≤ c) (h1 : c ≤ 63) (h2 : 0 ≤ x) (h3 : x ≤ 63) : onB (b ||| bitI c) x = (onB b x || decide (x = c)) := by
  unfold onB
  have e := bitI_nat c.toNat (by omega)
  rw [Int.toNat_of_nonneg h0] at e
  rw [Int64.toBitVec_or, BitVec.getLsbD_or, e, BitVec.getLsbD_twoPow]
  congr 1
  rw [decide_eq_true (by omega : c.toNat < 64), Bool.true_and]
  rw [decide_eq_decide]; omega
theorem ptF_ray {f0 : Nat → Int32} {b0 : Int64} {h : Int} {g : Nat → Int} (hh : 0 ≤ h) {n : Nat} (hg : ∀ j, j < n → 0 ≤ g j ∧ g j ≤ 63) (hf : ∀ (k x : Nat), x < 64 → ((f0 (64 * k + x)).toInt ≠ 0 ↔ ((k : Int) = h ∧ onB b0 x = true))) : ∀ (k x : Nat), x < 64 → ((ptF f0 h g n (64 * k + x)).toInt ≠ 0 ↔ ((k : Int) = h ∧ onB (rayN b0 g n) x = true)) := by
  induction n with
  | zero => exact hf
  | succ n ih =>
    intro k x hx
    have ih := ih (fun j hj => hg j (by omega)) k x hx
    have hgn := hg n (by omega)
    unfold ptF rayN upd
    rw [onB_or _ hgn.1 hgn.2 (by omega) (by omega)]
    by_cases e : 64 * k + x = (h * 64 + g n).toNat
    · rw [if_pos e]
      have h1 : (k : Int) = h := by omega
      have h2 : (x : Int) = g n := by omega
      constructor
      · intro _; exact ⟨h1, by rw [decide_eq_true h2, Bool.or_true]⟩
      · intro _; decide
    · rw [if_neg e, ih]
      constructor
      · rintro ⟨a, b⟩; exact ⟨a, by rw [b, Bool.true_or]⟩
      · rintro ⟨a, b⟩
        refine ⟨a, ?_⟩
        rw [Bool.or_eq_true] at b
        rcases b with b | b
        · exact b
        · have := of_decide_eq_true b; omega
theorem gW_rng {c : Int} (h0 : 0 ≤ c) (h1 : c ≤ 63) (w : Nat) (hw : w < 4) : ∀ j : Nat, j < (nW w c).toNat → 0 ≤ gW w c j ∧ gW w c j ≤ 63 := by
  intro j hj
  unfold nW at hj; unfold gW
  rcases (show w = 0 ∨ w = 1 ∨ w = 2 ∨ w = 3 by omega) with rfl | rfl | rfl | rfl <;> simp only [reduceIte, Nat.reduceEqDiff] at hj ⊢ <;> omega
theorem litM_on {c h : Int} (h0 : 0 ≤ c) (h1 : c ≤ 63) (hh : 0 ≤ h) : ∀ (k x : Nat), x < 64 → ((litM c h (64 * k + x)).toInt ≠ 0 ↔ ((k : Int) = h ∧ onB (litB c) x = true)) := by
  unfold litM litB
  refine ptF_ray hh (gW_rng h0 h1 3 (by decide)) (ptF_ray hh (gW_rng h0 h1 2 (by decide)) (ptF_ray hh (gW_rng h0 h1 1 (by decide)) (ptF_ray hh (gW_rng h0 h1 0 (by decide)) ?_)))
  intro k x hx
  constructor
  · intro q; exact absurd (by decide) q
  · rintro ⟨_, q⟩
    unfold onB at q
    simp at q
theorem any_lit {c h : Int} (h0 : 0 ≤ c) (h1 : c ≤ 63) (hh : 0 ≤ h) (h2 : h ≤ 23) {x : Nat} (hx : x < 64) : anyF (litM c h) x 24 = onB (litB c) x := by
  have key : ∀ n : Nat, anyF (litM c h) x n = (decide (h < (n : Int)) && onB (litB c) x) := by
    intro n
    induction n with
    | zero => unfold anyF; rw [decide_eq_false (by omega)]; rfl
    | succ n ih =>
      unfold anyF
      rw [ih]
      have k := litM_on h0 h1 hh n x hx
      by_cases e : (n : Int) = h
      · cases q : onB (litB c) x
        · rw [q] at k; simp at k; simp [k]
        · rw [q] at k
          have k2 := k.mpr ⟨e, rfl⟩
          rw [decide_eq_true k2, decide_eq_true (show h < ((n + 1 : Nat) : Int) by omega)]; simp
      · have k2 : ¬ (litM c h (64 * n + x)).toInt ≠ 0 := fun q => e (k.mp q).1
        rw [decide_eq_false k2, Bool.or_false]
        congr 1
        rw [decide_eq_decide]; omega
  rw [key 24, decide_eq_true (show h < ((24 : Nat) : Int) by omega), Bool.true_and]
def cntB (b : Int64) (w : Int) : Nat → Int
  | 0 => 0
  | c + 1 => cntB b w c + (if onB b c = true ∧ (w = -1 ∨ w = (c : Int)) then 1 else 0)
theorem cnt_lit {c h w : Int} (h0 : 0 ≤ c) (h1 : c ≤ 63) (hh : 0 ≤ h) (h2 : h ≤ 23) : ∀ n : Nat, n ≤ 64 → cntM (litM c h) w n = cntB (litB c) w n := by
  intro n
  induction n with
  | zero => intro _; rfl
  | succ n ih =>
    intro hn
    unfold cntM cntB
    rw [ih (by omega), any_lit h0 h1 hh h2 (by omega)]
theorem cntB_lit : ∀ k : Nat, k < 64 → cntB (litB k) (-1) 64 = 14 := by decide +kernel
theorem cntB_one {b : Int64} {w : Int} (hw : 0 ≤ w) : ∀ n : Nat, cntB b w n = if w < (n : Int) ∧ onB b w = true then 1 else 0 := by
  intro n
  induction n with
  | zero => unfold cntB; rw [if_neg (by omega)]
  | succ n ih =>
    unfold cntB
    rw [ih]
    by_cases e : w = (n : Int)
    · subst e
      cases q : onB b (n : Int)
      · simp
      · rw [if_neg (by omega), if_pos (by simp), if_pos (by simp; omega)]; rfl
    · rw [if_neg (show ¬ (onB b (n : Int) = true ∧ (w = -1 ∨ w = (n : Int))) by omega)]
      have : (w < (n : Int) ∧ onB b w = true) ↔ (w < ((n + 1 : Nat) : Int) ∧ onB b w = true) := by
        constructor
        · rintro ⟨x, y⟩; exact ⟨by omega, y⟩
        · rintro ⟨x, y⟩; exact ⟨by omega, y⟩
      simp only [this]; omega
theorem g5_mlit {n k c h w : Int32} (hn : n.toInt = cntM (litM c.toInt h.toInt) w.toInt k.toInt.toNat) (hk : k.toInt = 64) (h0 : 0 ≤ c.toInt) (h1 : c.toInt ≤ 63) (h2 : 0 ≤ h.toInt) (h3 : h.toInt ≤ 23) (h4 : -1 ≤ w.toInt) (h5 : w.toInt ≤ 63) : n.toInt = sp_lit c.toInt h.toInt w.toInt := by
  rw [hn, hk, show Int.toNat 64 = 64 from rfl, cnt_lit h0 h1 h2 h3 64 (by omega)]
  by_cases e : w.toInt = -1
  · have q := cntB_lit c.toInt.toNat (by omega)
    rw [Int.toNat_of_nonneg h0] at q
    rw [e, q]; unfold sp_lit; omega
  · rw [cntB_one (by omega), g5_lit h0 h1 (by omega) h5]
    unfold sp_lit
    by_cases q : w.toInt ≠ c.toInt ∧ (w.toInt / 8 = c.toInt / 8 ∨ w.toInt % 8 = c.toInt % 8)
    · rw [if_pos ⟨by omega, decide_eq_true q⟩]; omega
    · rw [if_neg (by rw [decide_eq_true_iff]; omega)]; omega
theorem g5_cntM0 {f : Nat → Int32} {w : Int} : (0 : Int32).toInt = cntM f w (0 : Int32).toInt.toNat := by
  rw [show (0 : Int32).toInt.toNat = 0 from by decide]; show _ = (0 : Int); decide
theorem g5_anyZ {f : Nat → Int32} {c : Nat} : (0 : Int32).toInt = b01 (anyF f c (0 : Int32).toInt.toNat) := by
  rw [show (0 : Int32).toInt.toNat = 0 from by decide]; show _ = (0 : Int); decide
/-- a thief's step: where it leads, if it can be -/
def stF (f : Nat → Int32) (c k h : Int) : Int := if bs c k ≠ -1 ∧ (f (64 * h + bs c k).toNat).toInt < 64 then bs c k else -1
theorem g5_bs4 {c k : Int32} (h : k.toInt = 4) : c.toInt = bs c.toInt k.toInt := by
  rw [h]; unfold bs; simp
theorem g5_stF1 {f : Nat → Int32} {c k h : Int} (e : bs c k = -1) : stF f c k h = -1 := by
  unfold stF; rw [if_neg (by omega)]
theorem g5_stF2 {f : Nat → Int32} {c k h : Int} {r y : Int32} (e : r.toInt = bs c k) (hy : y.toInt = 64 * h + r.toInt) (h0 : 0 ≤ y.toInt) (hf : 64 ≤ (f y.toNatClampNeg).toInt) : stF f c k h = -1 := by
  unfold stF
  rw [if_neg (by rintro ⟨_, q⟩; rw [← e, ← hy, ← g5_clamp] at q; omega)]
theorem g5_stF3 {f : Nat → Int32} {c k h : Int} {r y : Int32} (e : r.toInt = bs c k) (hy : y.toInt = 64 * h + r.toInt) (h0 : 0 ≤ r.toInt) (hf : (f y.toNatClampNeg).toInt < 64) : r.toInt = stF f c k h := by
  unfold stF
  rw [if_pos ⟨by omega, by rw [← e, ← hy, ← g5_clamp]; exact hf⟩]; exact e
def fz (f : Nat → Int64) (i : Int) : Int64 := f i.toNat
/-- a cell's rows behind it, place q of its block, over the first ways -/
def psA (M : Nat → Int32) (f : Nat → Int64) (h c q : Int) : Nat → Int64
  | 0 => fz f (32 * (64 * h + c) + q)
  | w + 1 => if stF M c w (h + 1) = -1 then psA M f h c q w else psA M f h c q w + fz f (32 * (64 * (h + 1) + stF M c w (h + 1)) + q)
theorem g5_psAz {M : Nat → Int32} {f : Nat → Int64} {h c : Int} : ∀ q : Int, 0 ≤ q → q < 32 → fz f (32 * (64 * h + c) + q) = psA M f h c q (0 : Int32).toInt.toNat := by
  intro q _ _
  rw [show (0 : Int32).toInt.toNat = 0 from by decide]; rfl
theorem g5_psA0 {M : Nat → Int32} {f k : Nat → Int64} {h c : Int} {w w' h1 : Int32} (ih : ∀ q : Int, 0 ≤ q → q < 32 → fz k (32 * (64 * h + c) + q) = psA M f h c q w.toInt.toNat) (hs : stF M c w.toInt h1.toInt = -1) (hh : h1.toInt = h + 1) (h0 : 0 ≤ w.toInt) (hw : w'.toInt = w.toInt + 1) : ∀ q : Int, 0 ≤ q → q < 32 → fz k (32 * (64 * h + c) + q) = psA M f h c q w'.toInt.toNat := by
  intro q a b
  have e : w'.toInt.toNat = w.toInt.toNat + 1 := by omega
  have e2 : ((w.toInt.toNat : Nat) : Int) = w.toInt := by omega
  rw [e]; unfold psA; rw [e2, ← hh, if_pos hs]; exact ih q a b
theorem g5_psA1 {M : Nat → Int32} {f k g : Nat → Int64} {h c : Int} {w w' h1 r m : Int32} (ih : ∀ q : Int, 0 ≤ q → q < 32 → fz k (32 * (64 * h + c) + q) = psA M f h c q w.toInt.toNat) (hd : ∀ q : Int, 0 ≤ q → q < m.toInt → fz g (32 * (64 * h + c) + q) = fz k (32 * (64 * h + c) + q) + fz f (32 * (64 * (h + 1) + r.toInt) + q)) (hs : r.toInt = stF M c w.toInt h1.toInt) (hr : 0 ≤ r.toInt) (hh : h1.toInt = h + 1) (h0 : 0 ≤ w.toInt) (hw : w'.toInt = w.toInt + 1) (hm : m.toInt = 32) : ∀ q : Int, 0 ≤ q → q < 32 → fz g (32 * (64 * h + c) + q) = psA M f h c q w'.toInt.toNat := by
  intro q a b
  have e : w'.toInt.toNat = w.toInt.toNat + 1 := by omega
  have e2 : ((w.toInt.toNat : Nat) : Int) = w.toInt := by omega
  rw [e]; unfold psA; rw [e2, ← hh, if_neg (by omega), ← hs, hd q a (by omega), ih q a b]
  rw [hh]
theorem fz_upd {f : Nat → Int64} {x : Int32} {v : Int64} {i : Int} (hi : 0 ≤ i) (hx : 0 ≤ x.toInt) : fz (vp_updL f x.toNatClampNeg v) i = if i = x.toInt then v else fz f i := by
  unfold fz vp_updL
  rw [g5_clamp]
  by_cases e : i = x.toInt
  · rw [if_pos e, if_pos (by omega)]
  · rw [if_neg e, if_neg (by omega)]
theorem g5_blk1 {f k g : Nat → Int64} {h c : Int} {r m m' x y : Int32} (hd : ∀ q : Int, 0 ≤ q → q < m.toInt → fz g (32 * (64 * h + c) + q) = fz k (32 * (64 * h + c) + q) + fz f (32 * (64 * (h + 1) + r.toInt) + q)) (h2 : ∀ q : Int, m.toInt ≤ q → q < 32 → fz g (32 * (64 * h + c) + q) = fz k (32 * (64 * h + c) + q)) (h3 : ∀ i : Int, 0 ≤ i → (i < 32 * (64 * h + c) ∨ 32 * (64 * h + c) + 32 ≤ i) → fz g i = fz k i) (h4 : ∀ i : Int, 0 ≤ i → (i < 32 * (64 * h + c) ∨ 32 * (64 * h + c) + 32 ≤ i) → fz k i = fz f i) (hx : x.toInt = 32 * (64 * h + c) + m.toInt) (hy : y.toInt = 32 * (64 * (h + 1) + r.toInt) + m.toInt) (hm : 0 ≤ m.toInt ∧ m.toInt < 32) (hm' : m'.toInt = m.toInt + 1) (hh : 0 ≤ h) (hc : 0 ≤ c ∧ c ≤ 63) (hr : 0 ≤ r.toInt) : ∀ q : Int, 0 ≤ q → q < m'.toInt → fz (vp_updL g x.toNatClampNeg (g x.toNatClampNeg + g y.toNatClampNeg)) (32 * (64 * h + c) + q) = fz k (32 * (64 * h + c) + q) + fz f (32 * (64 * (h + 1) + r.toInt) + q) := by
  intro q a b
  rw [fz_upd (by omega) (by omega)]
  by_cases e : q = m.toInt
  · rw [if_pos (by omega)]
    have e1 : g x.toNatClampNeg = fz g (32 * (64 * h + c) + q) := by unfold fz; rw [g5_clamp, hx, e]
    have e2 : g y.toNatClampNeg = fz g (32 * (64 * (h + 1) + r.toInt) + q) := by unfold fz; rw [g5_clamp, hy, e]
    rw [e1, e2, h2 q (by omega) (by omega), h3 (32 * (64 * (h + 1) + r.toInt) + q) (by omega) (by omega), h4 (32 * (64 * (h + 1) + r.toInt) + q) (by omega) (by omega)]
  · rw [if_neg (by omega)]; exact hd q a (by omega)
theorem g5_blk2 {k g : Nat → Int64} {h c : Int} {m m' x : Int32} {v : Int64} (h2 : ∀ q : Int, m.toInt ≤ q → q < 32 → fz g (32 * (64 * h + c) + q) = fz k (32 * (64 * h + c) + q)) (hx : x.toInt = 32 * (64 * h + c) + m.toInt) (hm' : m'.toInt = m.toInt + 1) (h0 : 0 ≤ m.toInt ∧ 0 ≤ h ∧ 0 ≤ c) : ∀ q : Int, m'.toInt ≤ q → q < 32 → fz (vp_updL g x.toNatClampNeg v) (32 * (64 * h + c) + q) = fz k (32 * (64 * h + c) + q) := by
  intro q a b
  rw [fz_upd (by omega) (by omega), if_neg (by omega)]; exact h2 q (by omega) b
theorem g5_blk3 {k g : Nat → Int64} {h c : Int} {m x : Int32} {v : Int64} (h3 : ∀ i : Int, 0 ≤ i → (i < 32 * (64 * h + c) ∨ 32 * (64 * h + c) + 32 ≤ i) → fz g i = fz k i) (hx : x.toInt = 32 * (64 * h + c) + m.toInt) (hm : 0 ≤ m.toInt ∧ m.toInt < 32) (h0 : 0 ≤ h ∧ 0 ≤ c) : ∀ i : Int, 0 ≤ i → (i < 32 * (64 * h + c) ∨ 32 * (64 * h + c) + 32 ≤ i) → fz (vp_updL g x.toNatClampNeg v) i = fz k i := by
  intro i a b
  rw [fz_upd a (by omega), if_neg (by omega)]; exact h3 i a b
theorem g5_stM {f : Nat → Int32} (hm : ∀ j : Nat, j < 1536 → f j = 0 ∨ f j = 64) {c k h : Int} {r : Int32} {j : Nat} (hs : r.toInt = stF f c k h) (hj : (j : Int) = 64 * h + r.toInt ∧ j < 1536) (hr : 0 ≤ r.toInt) : f j = 0 := by
  unfold stF at hs
  split at hs
  · rename_i q
    rcases hm j hj.2 with e | e
    · exact e
    · have e3 : (64 * h + bs c k).toNat = j := by omega
      rw [e3, e] at q
      exact absurd q.2 (by decide)
  · omega
def puA (M : Nat → Int32) (f : Nat → Int64) (h c d q : Int) : Nat → Int64
  | 0 => fz f (32 * (64 * (h + 1) + d) + q)
  | w + 1 => if stF M c w (h + 1) = d then puA M f h c d q w + fz f (32 * (64 * h + c) + q) else puA M f h c d q w
theorem g5_puAz {M : Nat → Int32} {f : Nat → Int64} {h c : Int} : ∀ d q : Int, 0 ≤ d → d ≤ 63 → 0 ≤ q → q < 32 → fz f (32 * (64 * (h + 1) + d) + q) = puA M f h c d q (0 : Int32).toInt.toNat := by
  intro d q _ _ _ _
  rw [show (0 : Int32).toInt.toNat = 0 from by decide]; rfl
theorem g5_puA0 {M : Nat → Int32} {f k : Nat → Int64} {h c : Int} {w w' h1 : Int32} (ih : ∀ d q : Int, 0 ≤ d → d ≤ 63 → 0 ≤ q → q < 32 → fz k (32 * (64 * (h + 1) + d) + q) = puA M f h c d q w.toInt.toNat) (hs : stF M c w.toInt h1.toInt = -1) (hh : h1.toInt = h + 1) (h0 : 0 ≤ w.toInt) (hw : w'.toInt = w.toInt + 1) : ∀ d q : Int, 0 ≤ d → d ≤ 63 → 0 ≤ q → q < 32 → fz k (32 * (64 * (h + 1) + d) + q) = puA M f h c d q w'.toInt.toNat := by
  intro d q a1 a2 a b
  have e : w'.toInt.toNat = w.toInt.toNat + 1 := by omega
  have e2 : ((w.toInt.toNat : Nat) : Int) = w.toInt := by omega
  rw [e]; unfold puA; rw [e2, ← hh, if_neg (by omega), hh]; exact ih d q a1 a2 a b
theorem g5_puA1 {M : Nat → Int32} {f k g : Nat → Int64} {h c : Int} {w w' h1 r m : Int32} (ih : ∀ d q : Int, 0 ≤ d → d ≤ 63 → 0 ≤ q → q < 32 → fz k (32 * (64 * (h + 1) + d) + q) = puA M f h c d q w.toInt.toNat) (hd : ∀ q : Int, 0 ≤ q → q < m.toInt → fz g (32 * (64 * (h + 1) + r.toInt) + q) = fz k (32 * (64 * (h + 1) + r.toInt) + q) + fz f (32 * (64 * h + c) + q)) (h3 : ∀ i : Int, 0 ≤ i → (i < 32 * (64 * (h + 1) + r.toInt) ∨ 32 * (64 * (h + 1) + r.toInt) + 32 ≤ i) → fz g i = fz k i) (hs : r.toInt = stF M c w.toInt h1.toInt) (hr : 0 ≤ r.toInt ∧ r.toInt ≤ 63) (hh : h1.toInt = h + 1) (h0 : 0 ≤ w.toInt) (hw : w'.toInt = w.toInt + 1) (hm : m.toInt = 32) (hp : 0 ≤ h) : ∀ d q : Int, 0 ≤ d → d ≤ 63 → 0 ≤ q → q < 32 → fz g (32 * (64 * (h + 1) + d) + q) = puA M f h c d q w'.toInt.toNat := by
  intro d q a1 a2 a b
  have e : w'.toInt.toNat = w.toInt.toNat + 1 := by omega
  have e2 : ((w.toInt.toNat : Nat) : Int) = w.toInt := by omega
  rw [e]; unfold puA; rw [e2, ← hh, ← hs]
  by_cases z : r.toInt = d
  · rw [if_pos z, ← z, hh, hd q a (by omega), ih r.toInt q hr.1 hr.2 a b]
  · rw [if_neg z, hh, h3 _ (by omega) (by omega), ih d q a1 a2 a b]
theorem g5_bk1 {f k g : Nat → Int64} {P S : Int} {m m' x y : Int32} (hd : ∀ q : Int, 0 ≤ q → q < m.toInt → fz g (P + q) = fz k (P + q) + fz f (S + q)) (h2 : ∀ q : Int, m.toInt ≤ q → q < 32 → fz g (P + q) = fz k (P + q)) (h3 : ∀ i : Int, 0 ≤ i → (i < P ∨ P + 32 ≤ i) → fz g i = fz k i) (h4 : fz k (S + m.toInt) = fz f (S + m.toInt)) (hx : x.toInt = P + m.toInt) (hy : y.toInt = S + m.toInt) (hm : 0 ≤ m.toInt ∧ m.toInt < 32) (hm' : m'.toInt = m.toInt + 1) (hS : 0 ≤ P ∧ 0 ≤ S ∧ (S + m.toInt < P ∨ P + 32 ≤ S + m.toInt)) : ∀ q : Int, 0 ≤ q → q < m'.toInt → fz (vp_updL g x.toNatClampNeg (g x.toNatClampNeg + g y.toNatClampNeg)) (P + q) = fz k (P + q) + fz f (S + q) := by
  intro q a b
  rw [fz_upd (by omega) (by omega)]
  by_cases e : q = m.toInt
  · rw [if_pos (by omega)]
    have e1 : g x.toNatClampNeg = fz g (P + q) := by unfold fz; rw [g5_clamp, hx, e]
    have e2 : g y.toNatClampNeg = fz g (S + q) := by unfold fz; rw [g5_clamp, hy, e]
    rw [e1, e2, h2 q (by omega) (by omega), h3 (S + q) (by omega) (by omega), e, h4]
  · rw [if_neg (by omega)]; exact hd q a (by omega)
theorem g5_bk2 {k g : Nat → Int64} {P : Int} {m m' x : Int32} {v : Int64} (h2 : ∀ q : Int, m.toInt ≤ q → q < 32 → fz g (P + q) = fz k (P + q)) (hx : x.toInt = P + m.toInt) (hm' : m'.toInt = m.toInt + 1) (h0 : 0 ≤ m.toInt ∧ 0 ≤ P) : ∀ q : Int, m'.toInt ≤ q → q < 32 → fz (vp_updL g x.toNatClampNeg v) (P + q) = fz k (P + q) := by
  intro q a b
  rw [fz_upd (by omega) (by omega), if_neg (by omega)]; exact h2 q (by omega) b
theorem g5_bk3 {k g : Nat → Int64} {P : Int} {m x : Int32} {v : Int64} (h3 : ∀ i : Int, 0 ≤ i → (i < P ∨ P + 32 ≤ i) → fz g i = fz k i) (hx : x.toInt = P + m.toInt) (hm : 0 ≤ m.toInt ∧ m.toInt < 32) (h0 : 0 ≤ P) : ∀ i : Int, 0 ≤ i → (i < P ∨ P + 32 ≤ i) → fz (vp_updL g x.toNatClampNeg v) i = fz k i := by
  intro i a b
  rw [fz_upd a (by omega), if_neg (by omega)]; exact h3 i a b
def rwF (f g : Nat → Int64) (B : Int) : Nat → Int64
  | 0 => 0
  | m + 1 => rwF f g B m + fz f (B + m) * fz g (B + m)
theorem g5_rwF0 {f g : Nat → Int64} {B : Int} : (0 : Int64) = rwF f g B (0 : Int32).toInt.toNat := by
  rw [show (0 : Int32).toInt.toNat = 0 from by decide]; rfl
theorem g5_rwF {f g : Nat → Int64} {B : Int} {m m' y : Int32} {x : Int64} (h : x = rwF f g B m.toInt.toNat) (h0 : 0 ≤ m.toInt) (h1 : m'.toInt = m.toInt + 1) (hy : y.toInt = B + m.toInt) : x + f y.toNatClampNeg * g y.toNatClampNeg = rwF f g B m'.toInt.toNat := by
  have e : m'.toInt.toNat = m.toInt.toNat + 1 := by omega
  have e2 : ((m.toInt.toNat : Nat) : Int) = m.toInt := by omega
  rw [e]; unfold rwF fz; rw [e2, ← hy, h, g5_clamp]
def arF (f g : Nat → Int64) : Nat → Int64
  | 0 => 0
  | c + 1 => arF f g c + rwF f g (32 * (c : Int)) 32
theorem g5_arF0 {f g : Nat → Int64} : (0 : Int64) = arF f g (0 : Int32).toInt.toNat := by
  rw [show (0 : Int32).toInt.toNat = 0 from by decide]; rfl
theorem g5_arF {f g : Nat → Int64} {c c' : Int32} {x z : Int64} (h : x = arF f g c.toInt.toNat) (hz : z = rwF f g (32 * (64 * (0 : Int32).toInt + c.toInt)) 32) (h0 : 0 ≤ c.toInt) (h1 : c'.toInt = c.toInt + 1) : x + z = arF f g c'.toInt.toNat := by
  have e : c'.toInt.toNat = c.toInt.toNat + 1 := by omega
  have e2 : ((c.toInt.toNat : Nat) : Int) = c.toInt := by omega
  have e3 : 64 * (0 : Int32).toInt + c.toInt = c.toInt := by rw [show (0 : Int32).toInt = 0 from by decide]; omega
  rw [e]; unfold arF; rw [e2, h, hz, e3]
