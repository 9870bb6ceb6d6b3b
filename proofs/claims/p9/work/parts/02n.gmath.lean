/-! tables of numbers, any state -/
/-- not the same: hidden from omega, which splits at each -/
def gNe (a b : Int) : Prop := a ≠ b
theorem g_up {x k N : Int} (h : k < x) (h2 : k < N) : Int.toNat (N - x) < Int.toNat (N - k) := by omega
theorem g_dn {x k : Int} (h : x < k) (h2 : 0 ≤ k) : Int.toNat (x + 1) < Int.toNat (k + 1) := by omega
def tget (f : Nat → Int32) (n w r c : Int) : Int32 := if 0 ≤ r ∧ r < n ∧ 0 ≤ c ∧ c < w then f (r * w + c).toNat else -1
def tset (f : Nat → Int32) (n w r c : Int) (v : Int32) : Nat → Int32 := if 0 ≤ r ∧ r < n ∧ 0 ≤ c ∧ c < w then upd f (r * w + c).toNat v else f
def tfil (f : Nat → Int32) (n w : Int) (v : Int32) (k : Int) : Nat → Int32 := fun j => if n * w ≤ (j : Int) ∧ (j : Int) < n * w + k then v else f j
theorem qt_getN {f : Nat → Int32} {n w r c : Int} (h : ¬ (0 ≤ r ∧ r < n ∧ 0 ≤ c ∧ c < w)) : (-1 : Int32) = tget f n w r c := by
  unfold tget; rw [if_neg h]
theorem qt_get {f : Nat → Int32} {n w r c : Int} {x : Int32} (h : 0 ≤ r ∧ r < n ∧ 0 ≤ c ∧ c < w) (hx : x.toInt = r * w + c) : f x.toNatClampNeg = tget f n w r c := by
  unfold tget; rw [if_pos h, g5_clamp, hx]
theorem qt_setN {f : Nat → Int32} {n w r c : Int} {v : Int32} (h : ¬ (0 ≤ r ∧ r < n ∧ 0 ≤ c ∧ c < w)) : f = tset f n w r c v := by
  unfold tset; rw [if_neg h]
theorem qt_set {f : Nat → Int32} {n w r c : Int} {x v : Int32} (h : 0 ≤ r ∧ r < n ∧ 0 ≤ c ∧ c < w) (hx : x.toInt = r * w + c) : upd f x.toNatClampNeg v = tset f n w r c v := by
  unfold tset; rw [if_pos h, g5_clamp, hx]
theorem qt_fil0 {f : Nat → Int32} {n w : Int} {v : Int32} : f = tfil f n w v (0 : Int32).toInt := by
  funext j
  unfold tfil
  rw [show (0 : Int32).toInt = 0 from by decide, if_neg (by omega)]
theorem qt_filS {f g : Nat → Int32} {n w m : Int} {v : Int32} {k k' r : Int32} (h : g = tfil f n w v k.toInt) (hr : r.toInt = n) (hk : 0 ≤ k.toInt ∧ k.toInt < w) (hk' : k'.toInt = k.toInt + 1) (hn : 0 ≤ n ∧ n < m) (hw : 0 ≤ n * w) : tset g m w r.toInt k.toInt v = tfil f n w v k'.toInt := by
  unfold tset
  rw [if_pos ⟨by omega, by omega, hk.1, hk.2⟩, h, hr]
  funext j
  unfold upd tfil
  by_cases e : j = (n * w + k.toInt).toNat
  · rw [if_pos e, if_pos (by omega)]
  · rw [if_neg e]
    by_cases z : n * w ≤ (j : Int) ∧ (j : Int) < n * w + k.toInt
    · rw [if_pos z, if_pos (by omega)]
    · rw [if_neg z, if_neg (by omega)]
/-- the sightings that saw, among the first k -/
def snS (f : Nat → Int32) (n : Int) : Nat → Int
  | 0 => 0
  | k + 1 => snS f n k + (tget f n 4 k (3 : Int32).toInt).toInt
theorem h_snS0 {f : Nat → Int32} {n : Int} : (0 : Int32).toInt = snS f n (0 : Int32).toInt.toNat := by
  rw [show (0 : Int32).toInt.toNat = 0 from by decide]; show _ = (0 : Int); decide
theorem h_snS {f : Nat → Int32} {n : Int} {k k' s s' z : Int32} (h : s.toInt = snS f n k.toInt.toNat) (hz : z = tget f n 4 k.toInt (3 : Int32).toInt) (_he : ∀ r : Int, 0 ≤ r → r < n → 0 ≤ (tget f n 4 r (3 : Int32).toInt).toInt ∧ (tget f n 4 r (3 : Int32).toInt).toInt ≤ 1) (h0 : 0 ≤ k.toInt) (hk : k'.toInt = k.toInt + 1) (hs : s'.toInt = s.toInt + z.toInt) : s'.toInt = snS f n k'.toInt.toNat := by
  have e : k'.toInt.toNat = k.toInt.toNat + 1 := by omega
  have e2 : ((k.toInt.toNat : Nat) : Int) = k.toInt := by omega
  rw [e]
  show _ = snS f n k.toInt.toNat + (tget f n 4 ((k.toInt.toNat : Nat) : Int) (3 : Int32).toInt).toInt
  rw [e2, ← hz, ← h]; exact hs
/-- a body's cells from an hour to another, the last one not in it -/
def bput (f : Nat → Int32) (n r a b : Int) (v : Int32) : Nat → Int32 := fun j => if 0 ≤ r ∧ r < n ∧ r * 24 + a ≤ (j : Int) ∧ (j : Int) < r * 24 + b then v else f j
/-- where the first k bodies are in an hour -/
def bbd (f : Nat → Int32) (n h : Int) : Nat → Int64
  | 0 => 0
  | k + 1 => bbd f n h k ||| (if tget f n 24 k h = -1 then 0 else (1 : Int64) <<< ((tget f n 24 k h).toInt64 &&& 63))
theorem b_put0 {f : Nat → Int32} {n r a : Int} {v : Int32} : f = bput f n r a a v := by
  funext j; unfold bput; rw [if_neg (by omega)]
theorem b_putS {f g : Nat → Int32} {n r a : Int} {v : Int32} {h h' : Int32} (e : g = bput f n r a h.toInt v) (ha : a ≤ h.toInt) (h0 : 0 ≤ h.toInt) (h1 : h.toInt ≤ 23) (hh : h'.toInt = h.toInt + 1) : tset g n 24 r h.toInt v = bput f n r a h'.toInt v := by
  rw [e]
  funext j
  unfold tset bput
  by_cases q : 0 ≤ r ∧ r < n ∧ 0 ≤ h.toInt ∧ h.toInt < 24
  · rw [if_pos q]
    unfold upd
    by_cases z : j = (r * 24 + h.toInt).toNat
    · rw [if_pos z, if_pos (by omega)]
    · rw [if_neg z]
      show (if 0 ≤ r ∧ r < n ∧ r * 24 + a ≤ (j : Int) ∧ (j : Int) < r * 24 + h.toInt then v else f j) = _
      by_cases y : 0 ≤ r ∧ r < n ∧ r * 24 + a ≤ (j : Int) ∧ (j : Int) < r * 24 + h.toInt
      · rw [if_pos y, if_pos (by omega)]
      · rw [if_neg y, if_neg (by omega)]
  · rw [if_neg q]
    by_cases y : 0 ≤ r ∧ r < n ∧ r * 24 + a ≤ (j : Int) ∧ (j : Int) < r * 24 + h.toInt
    · rw [if_pos y, if_pos (by omega)]
    · rw [if_neg y, if_neg (by omega)]
theorem b_bbd0 {f : Nat → Int32} {n h : Int} : (0 : Int64) = bbd f n h (0 : Int32).toInt.toNat := by
  rw [show (0 : Int32).toInt.toNat = 0 from by decide]; rfl
theorem b_bbdN {f : Nat → Int32} {n h : Int} {x : Int64} {k k' z : Int32} (e : x = bbd f n h k.toInt.toNat) (hz : z = tget f n 24 k.toInt h) (hn : z.toInt = -1) (h0 : 0 ≤ k.toInt) (hk : k'.toInt = k.toInt + 1) : x = bbd f n h k'.toInt.toNat := by
  have e1 : k'.toInt.toNat = k.toInt.toNat + 1 := by omega
  have e2 : ((k.toInt.toNat : Nat) : Int) = k.toInt := by omega
  rw [e1]
  show _ = bbd f n h k.toInt.toNat ||| (if tget f n 24 ((k.toInt.toNat : Nat) : Int) h = -1 then 0 else (1 : Int64) <<< ((tget f n 24 ((k.toInt.toNat : Nat) : Int) h).toInt64 &&& 63))
  rw [e2, ← hz, if_pos (g5_toc (n := -1) (by decide) hn), ← e, Int64.or_zero]
theorem b_bbdS {f : Nat → Int32} {n h : Int} {x : Int64} {k k' z : Int32} (e : x = bbd f n h k.toInt.toNat) (hz : z = tget f n 24 k.toInt h) (hn : z.toInt ≠ -1) (h0 : 0 ≤ k.toInt) (hk : k'.toInt = k.toInt + 1) : x ||| ((1 : Int64) <<< (z.toInt64 &&& 63)) = bbd f n h k'.toInt.toNat := by
  have e1 : k'.toInt.toNat = k.toInt.toNat + 1 := by omega
  have e2 : ((k.toInt.toNat : Nat) : Int) = k.toInt := by omega
  rw [e1]
  show _ = bbd f n h k.toInt.toNat ||| (if tget f n 24 ((k.toInt.toNat : Nat) : Int) h = -1 then 0 else (1 : Int64) <<< ((tget f n 24 ((k.toInt.toNat : Nat) : Int) h).toInt64 &&& 63))
  rw [e2, ← hz, if_neg (fun q => hn (by rw [q]; decide)), e]
theorem tget_col {f : Nat → Int32} {n r h c k : Int} {v : Int32} (h0 : 0 ≤ h ∧ h < 24) (hc : 0 ≤ c ∧ c < 24) (hne : h ≠ c) : tget (tset f n 24 r h v) n 24 k c = tget f n 24 k c := by
  unfold tget tset
  by_cases q : 0 ≤ k ∧ k < n ∧ 0 ≤ c ∧ c < 24
  · rw [if_pos q, if_pos q]
    by_cases z : 0 ≤ r ∧ r < n ∧ 0 ≤ h ∧ h < 24
    · rw [if_pos z]; unfold upd; rw [if_neg (by omega)]
    · rw [if_neg z]
  · rw [if_neg q, if_neg q]
theorem bbd_col {f : Nat → Int32} {n r h c : Int} {v : Int32} (h0 : 0 ≤ h ∧ h < 24) (hc : 0 ≤ c ∧ c < 24) (hne : h ≠ c) : ∀ k : Nat, bbd (tset f n 24 r h v) n c k = bbd f n c k := by
  intro k
  induction k with
  | zero => rfl
  | succ k ih =>
    show bbd (tset f n 24 r h v) n c k ||| _ = bbd f n c k ||| _
    rw [ih, tget_col h0 hc hne]
/-- the boards stay true when an hour's cells are set and its board is made anew -/
theorem b_step {f : Nat → Int32} {bb : Nat → Int64} {n r : Int} {v : Int32} {x : Int64} {h : Int32} (h0 : 0 ≤ h.toInt ∧ h.toInt ≤ 23) (ih : ∀ c : Nat, c < 24 → bb c = bbd f n c n.toNat) (hx : x = bbd (tset f n 24 r h.toInt v) n h.toInt n.toNat) : ∀ c : Nat, c < 24 → vp_updL bb h.toNatClampNeg x c = bbd (tset f n 24 r h.toInt v) n c n.toNat := by
  intro c hc
  unfold vp_updL
  rw [g5_clamp]
  by_cases e : c = h.toInt.toNat
  · rw [if_pos e, hx]; congr 1; omega
  · rw [if_neg e, ih c hc, bbd_col (by omega) (by omega) (by omega)]
theorem g_nlt0 {x : Int32} (h : 0 ≤ x.toInt) : ¬ x < 0 := by
  intro q
  have z := Int32.lt_iff_toInt_lt.mp q
  rw [show (0 : Int32).toInt = 0 from by decide] at z
  omega
/-- a table without one of its rows -/
def trem (f : Nat → Int32) (n w r : Int) : Nat → Int32 := fun j => if r * w ≤ (j : Int) ∧ (j : Int) < (n - 1) * w then f (j + w.toNat) else f j
theorem qt_rem {f : Nat → Int32} {n w r : Int} {x y z : Int32} (hr : 0 ≤ r ∧ r < n) (hw : 0 ≤ w) (h1 : 0 ≤ r * w) (hx : x.toInt = r * w + w) (hy : y.toInt = r * w) (hz : z.toInt = n * w - (r * w + w)) (h2 : 0 ≤ n * w - (r * w + w)) (h3 : (n - 1) * w = n * w - w) : va_cpy f f x.toNatClampNeg y.toNatClampNeg z.toNatClampNeg = trem f n w r := by
  have cx := g5_clamp x
  have cy := g5_clamp y
  have cz := g5_clamp z
  funext j
  unfold va_cpy trem
  by_cases q : r * w ≤ (j : Int) ∧ (j : Int) < (n - 1) * w
  · rw [if_pos q, if_pos (by omega)]; congr 1; omega
  · rw [if_neg q, if_neg (by omega)]
theorem g_a4095 (x : Int32) : 0 ≤ (x &&& 4095).toInt ∧ (x &&& 4095).toInt ≤ 4095 := by
  have h2 : (x &&& 4095).toBitVec.toNat = x.toBitVec.toNat % 2 ^ 12 := by
    rw [Int32.toBitVec_and, BitVec.toNat_and, show (4095 : Int32).toBitVec.toNat = 2 ^ 12 - 1 from by decide, Nat.and_two_pow_sub_one_eq_mod]
  have h3 : (x &&& 4095).toInt = ((x &&& 4095).toBitVec.toNat : Int) := by
    show (x &&& 4095).toBitVec.toInt = _
    rw [BitVec.toInt_eq_toNat_cond, if_pos]
    rw [h2]; omega
  rw [h3, h2]; omega
theorem g_maxI (x y : Int32) : x.toInt ≤ (if x < y then y else x).toInt ∧ y.toInt ≤ (if x < y then y else x).toInt ∧ ((if x < y then y else x).toInt = x.toInt ∨ (if x < y then y else x).toInt = y.toInt) := by
  by_cases h : x < y
  · rw [if_pos h]
    have := Int32.lt_iff_toInt_lt.mp h
    omega
  · rw [if_neg h]
    have : ¬ x.toInt < y.toInt := fun q => h (Int32.lt_iff_toInt_lt.mpr q)
    omega
theorem g_told {m : Int32} {s : Int64} (h0 : 0 ≤ m.toInt) (h1 : m.toInt ≤ 1000) : 0 ≤ ((if (if s < m.toInt64 then s else m.toInt64) < 0 then 0 else (if s < m.toInt64 then s else m.toInt64)).toInt32).toInt ∧ ((if (if s < m.toInt64 then s else m.toInt64) < 0 then 0 else (if s < m.toInt64 then s else m.toInt64)).toInt32).toInt ≤ m.toInt := by
  have e : m.toInt64.toInt = m.toInt := Int32.toInt_toInt64 m
  have z : (0 : Int64).toInt = 0 := by decide
  have key : ∀ w : Int64, 0 ≤ w.toInt → w.toInt ≤ m.toInt → 0 ≤ w.toInt32.toInt ∧ w.toInt32.toInt ≤ m.toInt := by
    intro w a b
    rw [Int64.toInt_toInt32, g5_bm (by omega) (by omega)]
    exact ⟨a, b⟩
  generalize hw : (if s < m.toInt64 then s else m.toInt64) = w
  have hle : w.toInt ≤ m.toInt := by
    rw [← hw]
    by_cases q : s < m.toInt64
    · rw [if_pos q]
      have := Int64.lt_iff_toInt_lt.mp q
      omega
    · rw [if_neg q]; omega
  by_cases q : w < 0
  · rw [if_pos q]; exact key 0 (by omega) (by omega)
  · rw [if_neg q]
    have : ¬ w.toInt < (0 : Int64).toInt := fun r => q (Int64.lt_iff_toInt_lt.mpr r)
    exact key w (by omega) hle
theorem g_incN (x : Int32) (n : Int) (hn : -1000000 ≤ n ∧ n ≤ 0) (h1 : -2147483648 ≤ x.toInt + n) (_h2 : x.toInt + n < 2147483648) : ∃ y : Int32, x + Int32.ofInt n = y ∧ y.toInt = x.toInt + n := by
  refine ⟨_, rfl, ?_⟩
  have hx := g5_rg x
  have e : (Int32.ofInt n).toInt = n := by
    rw [Int32.toInt_ofInt, g5_bm (by omega) (by omega)]
  exact g5_iadd rfl e h1 (by omega)
theorem bitI_nat (c : Nat) (h : c < 64) : (bitI c).toBitVec = BitVec.twoPow 64 c := by
  have : ∀ k : Nat, k < 64 → (bitI k).toBitVec = BitVec.twoPow 64 k := by decide +kernel
  exact this c h
theorem onB_or (b : Int64) {c x : Int} (h0 : 0 ≤ c) (h1 : c ≤ 63) (h2 : 0 ≤ x) (h3 : x ≤ 63) : onB (b ||| bitI c) x = (onB b x || decide (x = c)) := by
  unfold onB
  have e := bitI_nat c.toNat (by omega)
  rw [Int.toNat_of_nonneg h0] at e
  rw [Int64.toBitVec_or, BitVec.getLsbD_or, e, BitVec.getLsbD_twoPow]
  congr 1
  rw [decide_eq_true (by omega : c.toNat < 64), Bool.true_and]
  rw [decide_eq_decide]; omega
theorem onB_zero (c : Int) : onB 0 c = false := by unfold onB; simp
/-- every cell of a board is the cell of a row of a table that is five wide -/
def inT (x : Int64) (f : Nat → Int32) (n : Int) : Prop := ∀ c : Int, 0 ≤ c → c ≤ 63 → onB x c = true → ∃ r : Int, 0 ≤ r ∧ r < n ∧ (tget f n 5 r (0 : Int32).toInt).toInt = c
theorem inT_zero {f : Nat → Int32} {n : Int} : inT 0 f n := by
  intro c _ _ h
  rw [onB_zero] at h; exact absurd h (by decide)
theorem inT_or {x : Int64} {f : Nat → Int32} {n : Int} {k z : Int32} (h : inT x f n) (hz : z = tget f n 5 k.toInt (0 : Int32).toInt) (hk : 0 ≤ k.toInt ∧ k.toInt < n) (hc : 0 ≤ z.toInt ∧ z.toInt ≤ 63) : inT (x ||| ((1 : Int64) <<< (z.toInt64 &&& 63))) f n := by
  intro c h0 h1 hon
  have e : (1 : Int64) <<< (z.toInt64 &&& 63) = bitI z.toInt := by
    unfold bitI; rw [← g5_nI hc.1]
  rw [e, onB_or x hc.1 hc.2 h0 h1, Bool.or_eq_true] at hon
  rcases hon with q | q
  · exact h c h0 h1 q
  · refine ⟨k.toInt, hk.1, hk.2, ?_⟩
    rw [← hz]; exact (of_decide_eq_true q).symm
/-- rows of glasses or spots: cell, sort, late, dust -/
def gOK (f : Nat → Int32) (n : Int) : Prop := ∀ r : Int, 0 ≤ r → r < n → (0 ≤ (tget f n 5 r (0 : Int32).toInt).toInt ∧ (tget f n 5 r (0 : Int32).toInt).toInt ≤ 63) ∧ (0 ≤ (tget f n 5 r (1 : Int32).toInt).toInt ∧ (tget f n 5 r (1 : Int32).toInt).toInt ≤ 5) ∧ (0 ≤ (tget f n 5 r (2 : Int32).toInt).toInt ∧ (tget f n 5 r (2 : Int32).toInt).toInt ≤ 23) ∧ (0 ≤ (tget f n 5 r (3 : Int32).toInt).toInt ∧ (tget f n 5 r (3 : Int32).toInt).toInt ≤ 10)
def inR (f : Nat → Int32) (n c : Int) : Prop := ∃ r : Int, 0 ≤ r ∧ r < n ∧ (tget f n 5 r (0 : Int32).toInt).toInt = c
theorem g_notin {f : Nat → Int32} {n : Int} {c : Int32} (h : ∀ r : Int, 0 ≤ r → r < n → tget f n 5 r (0 : Int32).toInt ≠ c) : ¬ inR f n c.toInt := by
  rintro ⟨r, a, b, e⟩
  exact h r a b (Int32.toInt_inj.mp e)
theorem g_xorN (w : Nat) (h : w < 4) : (0 ≤ ((nI w) ^^^ 1).toInt ∧ ((nI w) ^^^ 1).toInt ≤ 3) ∧ (0 ≤ ((nI w) ^^^ 2).toInt ∧ ((nI w) ^^^ 2).toInt ≤ 3) := by
  have : ∀ k : Nat, k < 4 → (0 ≤ ((nI k) ^^^ 1).toInt ∧ ((nI k) ^^^ 1).toInt ≤ 3) ∧ (0 ≤ ((nI k) ^^^ 2).toInt ∧ ((nI k) ^^^ 2).toInt ≤ 3) := by decide +kernel
  exact this w h
theorem g_xor {w : Int32} (h0 : 0 ≤ w.toInt) (h1 : w.toInt ≤ 3) : (0 ≤ (w ^^^ 1).toInt ∧ (w ^^^ 1).toInt ≤ 3) ∧ (0 ≤ (w ^^^ 2).toInt ∧ (w ^^^ 2).toInt ≤ 3) := by
  rw [g5_nI h0]; exact g_xorN _ (by omega)
theorem g_dust {b d : Int32} (hb : 0 ≤ b.toInt ∧ b.toInt ≤ 1000000) (hd : 0 ≤ d.toInt ∧ d.toInt ≤ 10) : 0 ≤ (b * (10 - d) / 10).toInt ∧ (b * (10 - d) / 10).toInt ≤ 1000000 := by
  have e1 : (10 - d).toInt = 10 - d.toInt := g5_isub (by decide) rfl (by omega) (by omega)
  have p0 : 0 ≤ b.toInt * (10 - d.toInt) := Int.mul_nonneg hb.1 (by omega)
  have p1 : b.toInt * (10 - d.toInt) ≤ 1000000 * 10 := Int.mul_le_mul hb.2 (by omega) (by omega) (by omega)
  have e2 : (b * (10 - d)).toInt = b.toInt * (10 - d.toInt) := g5_imul rfl e1 (by omega) (by omega)
  have e3 : (b * (10 - d) / 10).toInt = b.toInt * (10 - d.toInt) / 10 := g5_idiv (a := b.toInt * (10 - d.toInt)) (b := 10) e2 (by decide) (by omega) (by decide)
  rw [e3]; omega
theorem g_rows {f : Nat → Int32} {k k' v : Int32} {lo hi : Int} (ih : ∀ j : Nat, (j : Int) < k.toInt → lo ≤ (f j).toInt ∧ (f j).toInt ≤ hi) (h0 : 0 ≤ k.toInt) (h1 : k'.toInt = k.toInt + 1) (h2 : lo ≤ v.toInt ∧ v.toInt ≤ hi) : ∀ j : Nat, (j : Int) < k'.toInt → lo ≤ (upd f k.toNatClampNeg v j).toInt ∧ (upd f k.toNatClampNeg v j).toInt ≤ hi := by
  intro j hj
  have e := g5_clamp k
  unfold upd
  by_cases hjk : j = k.toNatClampNeg
  · rw [if_pos hjk]; exact h2
  · rw [if_neg hjk]; exact ih j (by omega)
theorem g_inor {a b : Int64} {f g : Nat → Int32} {n m c : Int} (ha : inT a f n) (hb : inT b g m) (h0 : 0 ≤ c) (h1 : c ≤ 63) (h : onB (a ||| b) c = true) : inR f n c ∨ inR g m c := by
  have e : onB (a ||| b) c = (onB a c || onB b c) := by
    unfold onB; rw [Int64.toBitVec_or, BitVec.getLsbD_or]
  rw [e, Bool.or_eq_true] at h
  rcases h with q | q
  · exact Or.inl (ha c h0 h1 q)
  · exact Or.inr (hb c h0 h1 q)
theorem gOK_cell {f : Nat → Int32} {n : Int} (h : gOK f n) : ∀ r : Int, 0 ≤ r → r < n → 0 ≤ (tget f n 5 r (0 : Int32).toInt).toInt ∧ (tget f n 5 r (0 : Int32).toInt).toInt ≤ 63 := fun r a b => (h r a b).1
