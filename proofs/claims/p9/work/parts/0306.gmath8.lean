/-! rows of tables: what a get shows behind a set, an opened row, a row that went -/
theorem tg_set4 {f : Nat → Int32} {n r c r' c' : Int} {v : Int32} (h : 0 ≤ r ∧ r < n ∧ 0 ≤ c ∧ c < 4) : tget (tset f n 4 r c v) n 4 r' c' = if r' = r ∧ c' = c then v else tget f n 4 r' c' := by
  unfold tget tset
  rw [if_pos h]
  by_cases q : 0 ≤ r' ∧ r' < n ∧ 0 ≤ c' ∧ c' < 4
  · rw [if_pos q, if_pos q]
    unfold upd
    by_cases e : r' = r ∧ c' = c
    · rw [if_pos e, if_pos (by rw [e.1, e.2])]
    · rw [if_neg e, if_neg (by omega)]
  · rw [if_neg q, if_neg q]
    by_cases e : r' = r ∧ c' = c
    · exact absurd (by omega) q
    · rw [if_neg e]
theorem tg_fil4 {f : Nat → Int32} {n r c : Int} {v : Int32} (h0 : 0 ≤ n) (hr : 0 ≤ r ∧ r ≤ n) (hc : 0 ≤ c ∧ c < 4) : tget (tfil f n 4 v 4) (n + 1) 4 r c = if r = n then v else tget f n 4 r c := by
  unfold tget tfil
  rw [if_pos (by omega)]
  by_cases e : r = n
  · rw [if_pos e, if_pos (by omega)]
  · rw [if_neg e, if_neg (by omega), if_pos (by omega)]
theorem tg_set5 {f : Nat → Int32} {n r c r' c' : Int} {v : Int32} (h : 0 ≤ r ∧ r < n ∧ 0 ≤ c ∧ c < 5) : tget (tset f n 5 r c v) n 5 r' c' = if r' = r ∧ c' = c then v else tget f n 5 r' c' := by
  unfold tget tset
  rw [if_pos h]
  by_cases q : 0 ≤ r' ∧ r' < n ∧ 0 ≤ c' ∧ c' < 5
  · rw [if_pos q, if_pos q]
    unfold upd
    by_cases e : r' = r ∧ c' = c
    · rw [if_pos e, if_pos (by rw [e.1, e.2])]
    · rw [if_neg e, if_neg (by omega)]
  · rw [if_neg q, if_neg q]
    by_cases e : r' = r ∧ c' = c
    · exact absurd (by omega) q
    · rw [if_neg e]
theorem tg_fil5 {f : Nat → Int32} {n r c : Int} {v : Int32} (h0 : 0 ≤ n) (hr : 0 ≤ r ∧ r ≤ n) (hc : 0 ≤ c ∧ c < 5) : tget (tfil f n 5 v 5) (n + 1) 5 r c = if r = n then v else tget f n 5 r c := by
  unfold tget tfil
  rw [if_pos (by omega)]
  by_cases e : r = n
  · rw [if_pos e, if_pos (by omega)]
  · rw [if_neg e, if_neg (by omega), if_pos (by omega)]
theorem g_glass {f : Nat → Int32} {n N : Int} {c s l d : Int32} (h : gOK f n) (h0 : 0 ≤ n) (hN : N = n + 1) (hc : 0 ≤ c.toInt ∧ c.toInt ≤ 63) (hs : 0 ≤ s.toInt ∧ s.toInt ≤ 5) (hl : 0 ≤ l.toInt ∧ l.toInt ≤ 23) (hd : 0 ≤ d.toInt ∧ d.toInt ≤ 10) : gOK (tset (tset (tset (tset (tfil f n 5 0 5) N 5 n (0 : Int32).toInt c) N 5 n (1 : Int32).toInt s) N 5 n (2 : Int32).toInt l) N 5 n (3 : Int32).toInt d) N := by
  subst hN
  have z0 : (0 : Int32).toInt = 0 := (by decide)
  have z1 : (1 : Int32).toInt = 1 := (by decide)
  have z2 : (2 : Int32).toInt = 2 := (by decide)
  have z3 : (3 : Int32).toInt = 3 := (by decide)
  intro r a b
  rw [z0, z1, z2, z3]
  by_cases e : r = n
  · exact ⟨by rw [tg_set5 (by omega), if_neg (by omega), tg_set5 (by omega), if_neg (by omega), tg_set5 (by omega), if_neg (by omega), tg_set5 (by omega), if_pos (by omega)]; exact hc, by rw [tg_set5 (by omega), if_neg (by omega), tg_set5 (by omega), if_neg (by omega), tg_set5 (by omega), if_pos (by omega)]; exact hs, by rw [tg_set5 (by omega), if_neg (by omega), tg_set5 (by omega), if_pos (by omega)]; exact hl, by rw [tg_set5 (by omega), if_pos (by omega)]; exact hd⟩
  · have k := h r a (by omega)
    rw [z0, z1, z2, z3] at k
    exact ⟨by rw [tg_set5 (by omega), if_neg (by omega), tg_set5 (by omega), if_neg (by omega), tg_set5 (by omega), if_neg (by omega), tg_set5 (by omega), if_neg (by omega), tg_fil5 h0 (by omega) (by omega), if_neg (by omega)]; exact k.1, by rw [tg_set5 (by omega), if_neg (by omega), tg_set5 (by omega), if_neg (by omega), tg_set5 (by omega), if_neg (by omega), tg_set5 (by omega), if_neg (by omega), tg_fil5 h0 (by omega) (by omega), if_neg (by omega)]; exact k.2.1, by rw [tg_set5 (by omega), if_neg (by omega), tg_set5 (by omega), if_neg (by omega), tg_set5 (by omega), if_neg (by omega), tg_set5 (by omega), if_neg (by omega), tg_fil5 h0 (by omega) (by omega), if_neg (by omega)]; exact k.2.2.1, by rw [tg_set5 (by omega), if_neg (by omega), tg_set5 (by omega), if_neg (by omega), tg_set5 (by omega), if_neg (by omega), tg_set5 (by omega), if_neg (by omega), tg_fil5 h0 (by omega) (by omega), if_neg (by omega)]; exact k.2.2.2⟩
theorem g_spot {f : Nat → Int32} {n N : Int} {c s l : Int32} (h : gOK f n) (h0 : 0 ≤ n) (hN : N = n + 1) (hc : 0 ≤ c.toInt ∧ c.toInt ≤ 63) (hs : 0 ≤ s.toInt ∧ s.toInt ≤ 5) (hl : 0 ≤ l.toInt ∧ l.toInt ≤ 23) : gOK (tset (tset (tset (tfil f n 5 0 5) N 5 n (0 : Int32).toInt c) N 5 n (1 : Int32).toInt s) N 5 n (2 : Int32).toInt l) N := by
  subst hN
  have z0 : (0 : Int32).toInt = 0 := (by decide)
  have z1 : (1 : Int32).toInt = 1 := (by decide)
  have z2 : (2 : Int32).toInt = 2 := (by decide)
  have z3 : (3 : Int32).toInt = 3 := (by decide)
  intro r a b
  rw [z0, z1, z2, z3]
  by_cases e : r = n
  · exact ⟨by rw [tg_set5 (by omega), if_neg (by omega), tg_set5 (by omega), if_neg (by omega), tg_set5 (by omega), if_pos (by omega)]; exact hc, by rw [tg_set5 (by omega), if_neg (by omega), tg_set5 (by omega), if_pos (by omega)]; exact hs, by rw [tg_set5 (by omega), if_pos (by omega)]; exact hl, by rw [tg_set5 (by omega), if_neg (by omega), tg_set5 (by omega), if_neg (by omega), tg_set5 (by omega), if_neg (by omega), tg_fil5 h0 (by omega) (by omega), if_pos (by omega)]; rw [z0]; exact ⟨by decide, by decide⟩⟩
  · have k := h r a (by omega)
    rw [z0, z1, z2, z3] at k
    exact ⟨by rw [tg_set5 (by omega), if_neg (by omega), tg_set5 (by omega), if_neg (by omega), tg_set5 (by omega), if_neg (by omega), tg_fil5 h0 (by omega) (by omega), if_neg (by omega)]; exact k.1, by rw [tg_set5 (by omega), if_neg (by omega), tg_set5 (by omega), if_neg (by omega), tg_set5 (by omega), if_neg (by omega), tg_fil5 h0 (by omega) (by omega), if_neg (by omega)]; exact k.2.1, by rw [tg_set5 (by omega), if_neg (by omega), tg_set5 (by omega), if_neg (by omega), tg_set5 (by omega), if_neg (by omega), tg_fil5 h0 (by omega) (by omega), if_neg (by omega)]; exact k.2.2.1, by rw [tg_set5 (by omega), if_neg (by omega), tg_set5 (by omega), if_neg (by omega), tg_set5 (by omega), if_neg (by omega), tg_fil5 h0 (by omega) (by omega), if_neg (by omega)]; exact k.2.2.2⟩
theorem g_inTglass {x : Int64} {f : Nat → Int32} {n N : Int} {c s l d : Int32} (h : inT x f n) (h0 : 0 ≤ n) (hN : N = n + 1) (hc : 0 ≤ c.toInt ∧ c.toInt ≤ 63) : inT (x ||| ((1 : Int64) <<< (c.toInt64 &&& 63))) (tset (tset (tset (tset (tfil f n 5 0 5) N 5 n (0 : Int32).toInt c) N 5 n (1 : Int32).toInt s) N 5 n (2 : Int32).toInt l) N 5 n (3 : Int32).toInt d) N := by
  subst hN
  have z0 : (0 : Int32).toInt = 0 := (by decide)
  have z1 : (1 : Int32).toInt = 1 := (by decide)
  have z2 : (2 : Int32).toInt = 2 := (by decide)
  have z3 : (3 : Int32).toInt = 3 := (by decide)
  intro k a b hon
  have e : (1 : Int64) <<< (c.toInt64 &&& 63) = bitI c.toInt := by
    unfold bitI; rw [← g5_nI hc.1]
  rw [e, onB_or x hc.1 hc.2 a b, Bool.or_eq_true] at hon
  rw [z0, z1, z2, z3]
  rcases hon with q | q
  · obtain ⟨r, r0, r1, re⟩ := h k a b q
    rw [z0] at re
    exact ⟨r, r0, by omega, by rw [tg_set5 (by omega), if_neg (by omega), tg_set5 (by omega), if_neg (by omega), tg_set5 (by omega), if_neg (by omega), tg_set5 (by omega), if_neg (by omega), tg_fil5 h0 (by omega) (by omega), if_neg (by omega)]; exact re⟩
  · exact ⟨n, h0, by omega, by rw [tg_set5 (by omega), if_neg (by omega), tg_set5 (by omega), if_neg (by omega), tg_set5 (by omega), if_neg (by omega), tg_set5 (by omega), if_pos (by omega)]; exact (of_decide_eq_true q).symm⟩
theorem g_turn {f : Nat → Int32} {n r x : Int} {v : Int32} (h : gOK f n) (hr : 0 ≤ r ∧ r < n) (hx : (x = 1 ∧ 0 ≤ v.toInt ∧ v.toInt ≤ 5) ∨ (x = 2 ∧ 0 ≤ v.toInt ∧ v.toInt ≤ 23) ∨ (x = 3 ∧ 0 ≤ v.toInt ∧ v.toInt ≤ 10) ∨ x = 4) : gOK (tset f n 5 r x v) n := by
  have z0 : (0 : Int32).toInt = 0 := (by decide)
  have z1 : (1 : Int32).toInt = 1 := (by decide)
  have z2 : (2 : Int32).toInt = 2 := (by decide)
  have z3 : (3 : Int32).toInt = 3 := (by decide)
  intro k a b
  have q := h k a b
  rw [z0, z1, z2, z3] at q ⊢
  rw [tg_set5 (by omega), tg_set5 (by omega), tg_set5 (by omega), tg_set5 (by omega), if_neg (by omega)]
  refine ⟨q.1, ?_, ?_, ?_⟩
  · by_cases e : k = r ∧ 1 = x
    · rw [if_pos e]; omega
    · rw [if_neg e]; exact q.2.1
  · by_cases e : k = r ∧ 2 = x
    · rw [if_pos e]; omega
    · rw [if_neg e]; exact q.2.2.1
  · by_cases e : k = r ∧ 3 = x
    · rw [if_pos e]; omega
    · rw [if_neg e]; exact q.2.2.2
theorem g_inTturn {y : Int64} {f : Nat → Int32} {n r x : Int} {v : Int32} (h : inT y f n) (hr : 0 ≤ r ∧ r < n) (hx : 1 ≤ x ∧ x ≤ 4) : inT y (tset f n 5 r x v) n := by
  have z0 : (0 : Int32).toInt = 0 := (by decide)
  intro k a b hon
  obtain ⟨r2, r0, r1, re⟩ := h k a b hon
  rw [z0] at re ⊢
  exact ⟨r2, r0, r1, by rw [tg_set5 (by omega), if_neg (by omega)]; exact re⟩
theorem sg_col {f : Nat → Int32} {n N r : Int} {a b c s : Int32} (h0 : 0 ≤ n) (hN : N = n + 1) (hr : 0 ≤ r ∧ r ≤ n) : tget (tset (tset (tset (tset (tfil f n 4 0 4) N 4 n (0 : Int32).toInt a) N 4 n (1 : Int32).toInt b) N 4 n (2 : Int32).toInt c) N 4 n (3 : Int32).toInt s) N 4 r (3 : Int32).toInt = if r = n then s else tget f n 4 r (3 : Int32).toInt := by
  subst hN
  have z0 : (0 : Int32).toInt = 0 := (by decide)
  have z1 : (1 : Int32).toInt = 1 := (by decide)
  have z2 : (2 : Int32).toInt = 2 := (by decide)
  have z3 : (3 : Int32).toInt = 3 := (by decide)
  rw [z0, z1, z2, z3]
  by_cases e : r = n
  · rw [if_pos e, tg_set4 (by omega), if_pos (by omega)]
  · rw [if_neg e, tg_set4 (by omega), if_neg (by omega), tg_set4 (by omega), if_neg (by omega), tg_set4 (by omega), if_neg (by omega), tg_set4 (by omega), if_neg (by omega), tg_fil4 h0 (by omega) (by omega), if_neg (by omega)]
theorem sg_01 {f : Nat → Int32} {n N : Int} {a b c s : Int32} (h : ∀ r : Int, 0 ≤ r → r < n → 0 ≤ (tget f n 4 r (3 : Int32).toInt).toInt ∧ (tget f n 4 r (3 : Int32).toInt).toInt ≤ 1) (h0 : 0 ≤ n) (hN : N = n + 1) (hs : 0 ≤ s.toInt ∧ s.toInt ≤ 1) : ∀ r : Int, 0 ≤ r → r < N → 0 ≤ (tget (tset (tset (tset (tset (tfil f n 4 0 4) N 4 n (0 : Int32).toInt a) N 4 n (1 : Int32).toInt b) N 4 n (2 : Int32).toInt c) N 4 n (3 : Int32).toInt s) N 4 r (3 : Int32).toInt).toInt ∧ (tget (tset (tset (tset (tset (tfil f n 4 0 4) N 4 n (0 : Int32).toInt a) N 4 n (1 : Int32).toInt b) N 4 n (2 : Int32).toInt c) N 4 n (3 : Int32).toInt s) N 4 r (3 : Int32).toInt).toInt ≤ 1 := by
  intro r x y
  rw [sg_col h0 hN (by omega)]
  by_cases e : r = n
  · rw [if_pos e]; exact hs
  · rw [if_neg e]; exact h r x (by omega)
theorem sg_sn {f g : Nat → Int32} {n m : Int} : ∀ k : Nat, (∀ j : Nat, j < k → tget g m 4 j (3 : Int32).toInt = tget f n 4 j (3 : Int32).toInt) → snS g m k = snS f n k := by
  intro k
  induction k with
  | zero => intro _; rfl
  | succ k ih =>
    intro h
    show snS g m k + (tget g m 4 k (3 : Int32).toInt).toInt = snS f n k + (tget f n 4 k (3 : Int32).toInt).toInt
    rw [ih (fun j hj => h j (by omega)), h k (by omega)]
theorem sg_5 {f : Nat → Int32} {n N : Int} {a b c s : Int32} (h0 : 0 ≤ n) (hN : N = n + 1) (h : snS f n n.toNat + s.toInt ≤ 5) : snS (tset (tset (tset (tset (tfil f n 4 0 4) N 4 n (0 : Int32).toInt a) N 4 n (1 : Int32).toInt b) N 4 n (2 : Int32).toInt c) N 4 n (3 : Int32).toInt s) N N.toNat ≤ 5 := by
  have e1 : N.toNat = n.toNat + 1 := by omega
  rw [e1]
  show snS _ N n.toNat + (tget _ N 4 ((n.toNat : Nat) : Int) (3 : Int32).toInt).toInt ≤ 5
  rw [show ((n.toNat : Nat) : Int) = n by omega, sg_col h0 hN (by omega), if_pos rfl, sg_sn (f := f) (n := n) n.toNat (fun j hj => by rw [sg_col h0 hN (by omega), if_neg (by omega)])]
  exact h
theorem sg_rem {f : Nat → Int32} {n N r k : Int} (hr : 0 ≤ r ∧ r < n) (hN : N = n - 1) (hk : 0 ≤ k ∧ k < N) : tget (trem f n 4 r) N 4 k (3 : Int32).toInt = if k < r then tget f n 4 k (3 : Int32).toInt else tget f n 4 (k + 1) (3 : Int32).toInt := by
  have z3 : (3 : Int32).toInt = 3 := (by decide)
  subst hN
  rw [z3]
  by_cases e : k < r
  · rw [if_pos e]
    unfold tget trem
    rw [if_pos (by omega), if_neg (by omega), if_pos (by omega)]
  · rw [if_neg e]
    unfold tget trem
    rw [if_pos (by omega), if_pos (by omega), if_pos (by omega)]
    congr 1; omega
theorem sg_rem01 {f : Nat → Int32} {n N r : Int} (h : ∀ r : Int, 0 ≤ r → r < n → 0 ≤ (tget f n 4 r (3 : Int32).toInt).toInt ∧ (tget f n 4 r (3 : Int32).toInt).toInt ≤ 1) (hr : 0 ≤ r ∧ r < n) (hN : N = n - 1) : ∀ k : Int, 0 ≤ k → k < N → 0 ≤ (tget (trem f n 4 r) N 4 k (3 : Int32).toInt).toInt ∧ (tget (trem f n 4 r) N 4 k (3 : Int32).toInt).toInt ≤ 1 := by
  intro k a b
  rw [sg_rem hr hN ⟨a, b⟩]
  by_cases e : k < r
  · rw [if_pos e]; exact h k a (by omega)
  · rw [if_neg e]; exact h (k + 1) (by omega) (by omega)
theorem sg_remS {f : Nat → Int32} {n N r : Int} (h : ∀ r : Int, 0 ≤ r → r < n → 0 ≤ (tget f n 4 r (3 : Int32).toInt).toInt ∧ (tget f n 4 r (3 : Int32).toInt).toInt ≤ 1) (hr : 0 ≤ r ∧ r < n) (hN : N = n - 1) : ∀ k : Nat, (k : Int) ≤ N → snS (trem f n 4 r) N k ≤ snS f n (k + 1) ∧ ((k : Int) ≤ r → snS (trem f n 4 r) N k = snS f n k) := by
  intro k
  induction k with
  | zero =>
    intro _
    have z := (h 0 (by omega) (by omega)).1
    refine ⟨?_, fun _ => rfl⟩
    show (0 : Int) ≤ 0 + (tget f n 4 ((0 : Nat) : Int) (3 : Int32).toInt).toInt
    rw [show ((0 : Nat) : Int) = 0 from rfl]; omega
  | succ k ih =>
    intro hk
    obtain ⟨i1, i2⟩ := ih (by omega)
    have e : snS (trem f n 4 r) N (k + 1) = snS (trem f n 4 r) N k + (tget (trem f n 4 r) N 4 k (3 : Int32).toInt).toInt := rfl
    have e1 : snS f n (k + 1) = snS f n k + (tget f n 4 k (3 : Int32).toInt).toInt := rfl
    have e2 : snS f n (k + 1 + 1) = snS f n (k + 1) + (tget f n 4 ((k + 1 : Nat) : Int) (3 : Int32).toInt).toInt := rfl
    have c := sg_rem (f := f) hr hN (k := k) ⟨by omega, by omega⟩
    have p := (h ((k + 1 : Nat) : Int) (by omega) (by omega)).1
    rw [show (k : Int) + 1 = ((k + 1 : Nat) : Int) by omega] at c
    by_cases q : (k : Int) < r
    · rw [if_pos q] at c
      rw [c] at e
      have := i2 (by omega)
      refine ⟨by omega, fun _ => by omega⟩
    · rw [if_neg q] at c
      rw [c] at e
      refine ⟨by omega, fun z => absurd z (by omega)⟩
theorem sg_rem5 {f : Nat → Int32} {n N r : Int} (h : ∀ r : Int, 0 ≤ r → r < n → 0 ≤ (tget f n 4 r (3 : Int32).toInt).toInt ∧ (tget f n 4 r (3 : Int32).toInt).toInt ≤ 1) (h5 : snS f n n.toNat ≤ 5) (hr : 0 ≤ r ∧ r < n) (hN : N = n - 1) : snS (trem f n 4 r) N N.toNat ≤ 5 := by
  have z := (sg_remS h hr hN N.toNat (by omega)).1
  rw [show N.toNat + 1 = n.toNat by omega] at z
  omega
