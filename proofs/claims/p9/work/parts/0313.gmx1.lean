theorem cpy_atN {α : Type} {f g : Nat → α} {n j : Nat} (h : j < n) : va_cpy f g 0 0 n j = f j := by
  unfold va_cpy; rw [if_pos (by omega)]; congr 1; omega
theorem tget_cpyN {f g : Nat → Int32} {N : Nat} {n w : Int} (hn : n * w ≤ (N : Int)) (hw : 0 ≤ w) {r c : Int} : tget (va_cpy f g 0 0 N) n w r c = tget f n w r c := by
  unfold tget
  by_cases q : 0 ≤ r ∧ r < n ∧ 0 ≤ c ∧ c < w
  · rw [if_pos q, if_pos q]
    refine cpy_atN ?_
    have z : (r + 1) * w ≤ n * w := Int.mul_le_mul_of_nonneg_right (by omega) hw
    have y : (r + 1) * w = r * w + w := by rw [Int.add_mul, Int.one_mul]
    have x : 0 ≤ r * w := Int.mul_nonneg q.1 hw
    omega
  · rw [if_neg q, if_neg q]
/-! the row that class and model both tell of: what each call makes of it, what it answers -/
noncomputable def cif {α : Type} (P : Prop) (a b : α) : α := @ite α P (Classical.propDecidable P) a b
theorem cif_t {α : Type} {P : Prop} {a b : α} (h : P) : cif P a b = a := by unfold cif; exact if_pos h
theorem cif_f {α : Type} {P : Prop} {a b : α} (h : ¬ P) : cif P a b = b := by unfold cif; exact if_neg h
def addRow (f : Nat → Int32) (ci B mw n : Nat) (v : Int32) (vals : Nat → Int32) : Nat → Int32 := fun j => if j = ci then v else if B + mw * n ≤ j ∧ j < B + mw * n + mw then vals (j - (B + mw * n)) else f j
theorem ar_ne {f : Nat → Int32} {ci B mw n : Nat} {v : Int32} {vals : Nat → Int32} {j : Nat} (h1 : j ≠ ci) (h2 : j < B + mw * n ∨ B + mw * n + mw ≤ j) : addRow f ci B mw n v vals j = f j := by
  unfold addRow
  rw [if_neg h1, if_neg (by omega)]
theorem ar_ci {f : Nat → Int32} {ci B mw n : Nat} {v : Int32} {vals : Nat → Int32} : addRow f ci B mw n v vals ci = v := by
  unfold addRow
  rw [if_pos rfl]
def bfill (f : Nat → Int32) (a b : Int) (v : Int32) : Nat → Int32 := fun j => if a ≤ (j : Int) ∧ (j : Int) < b then v else f j
theorem bf_0 {f : Nat → Int32} {a b : Int} {v : Int32} (h : b ≤ a) : f = bfill f a b v := by
  funext j; unfold bfill; rw [if_neg (by omega)]
theorem bf_S {f g : Nat → Int32} {a b b2 : Int} {v : Int32} {x : Nat} (h : g = bfill f a b v) (hx : (x : Int) = b) (hb : b2 = b + 1) (hab : a ≤ b) : upd g x v = bfill f a b2 v := by
  subst h
  funext j
  by_cases q : j = x
  · rw [q, upd_eq]; unfold bfill; rw [if_pos (by omega)]
  · rw [upd_ne q]; unfold bfill
    by_cases r : a ≤ (j : Int) ∧ (j : Int) < b
    · rw [if_pos r, if_pos (by omega)]
    · rw [if_neg r, if_neg (by omega)]
theorem bf_ne {f : Nat → Int32} {a b : Int} {v : Int32} {j : Nat} (h : (j : Int) < a ∨ b ≤ (j : Int)) : bfill f a b v j = f j := by
  unfold bfill; rw [if_neg (by omega)]
def v3 (x0 x1 x2 : Int32) : Nat → Int32 := fun k => if k = 0 then x0 else if k = 1 then x1 else x2
theorem mr3 {f : Nat → Int32} {ci B n i0 i1 i2 : Nat} {v x0 x1 x2 : Int32} (hc : ci < B) (e0 : i0 = B + 3 * n + 0) (e1 : i1 = B + 3 * n + 1) (e2 : i2 = B + 3 * n + 2) : upd (upd (upd (upd f i0 x0) i1 x1) i2 x2) ci v = addRow f ci B 3 n v (v3 x0 x1 x2) := by
  subst e0
  subst e1
  subst e2
  funext j
  unfold addRow
  by_cases q : j = ci
  · rw [if_pos q, q, upd_eq]
  · rw [if_neg q, upd_ne q]
    by_cases r : B + 3 * n ≤ j ∧ j < B + 3 * n + 3
    · rw [if_pos r]
      unfold v3
      by_cases z2 : j = B + 3 * n + 2
      · rw [z2, upd_eq, if_neg (by omega), if_neg (by omega)]
      · rw [upd_ne z2]
        by_cases z1 : j = B + 3 * n + 1
        · rw [z1, upd_eq, if_neg (by omega), if_pos (by omega)]
        · rw [upd_ne z1]
          rw [show j = B + 3 * n + 0 by omega, upd_eq, if_pos (by omega)]
    · rw [if_neg r, upd_ne (by omega), upd_ne (by omega), upd_ne (by omega)]
def v4 (x0 x1 x2 x3 : Int32) : Nat → Int32 := fun k => if k = 0 then x0 else if k = 1 then x1 else if k = 2 then x2 else x3
theorem mr4 {f : Nat → Int32} {ci B n i0 i1 i2 i3 : Nat} {v x0 x1 x2 x3 : Int32} (hc : ci < B) (e0 : i0 = B + 4 * n + 0) (e1 : i1 = B + 4 * n + 1) (e2 : i2 = B + 4 * n + 2) (e3 : i3 = B + 4 * n + 3) : upd (upd (upd (upd (upd f i0 x0) i1 x1) i2 x2) i3 x3) ci v = addRow f ci B 4 n v (v4 x0 x1 x2 x3) := by
  subst e0
  subst e1
  subst e2
  subst e3
  funext j
  unfold addRow
  by_cases q : j = ci
  · rw [if_pos q, q, upd_eq]
  · rw [if_neg q, upd_ne q]
    by_cases r : B + 4 * n ≤ j ∧ j < B + 4 * n + 4
    · rw [if_pos r]
      unfold v4
      by_cases z3 : j = B + 4 * n + 3
      · rw [z3, upd_eq, if_neg (by omega), if_neg (by omega), if_neg (by omega)]
      · rw [upd_ne z3]
        by_cases z2 : j = B + 4 * n + 2
        · rw [z2, upd_eq, if_neg (by omega), if_neg (by omega), if_pos (by omega)]
        · rw [upd_ne z2]
          by_cases z1 : j = B + 4 * n + 1
          · rw [z1, upd_eq, if_neg (by omega), if_pos (by omega)]
          · rw [upd_ne z1]
            rw [show j = B + 4 * n + 0 by omega, upd_eq, if_pos (by omega)]
    · rw [if_neg r, upd_ne (by omega), upd_ne (by omega), upd_ne (by omega), upd_ne (by omega)]
def v5 (x0 x1 x2 x3 x4 : Int32) : Nat → Int32 := fun k => if k = 0 then x0 else if k = 1 then x1 else if k = 2 then x2 else if k = 3 then x3 else x4
theorem mr5 {f : Nat → Int32} {ci B n i0 i1 i2 i3 i4 : Nat} {v x0 x1 x2 x3 x4 : Int32} (hc : ci < B) (e0 : i0 = B + 5 * n + 0) (e1 : i1 = B + 5 * n + 1) (e2 : i2 = B + 5 * n + 2) (e3 : i3 = B + 5 * n + 3) (e4 : i4 = B + 5 * n + 4) : upd (upd (upd (upd (upd (upd f i0 x0) i1 x1) i2 x2) i3 x3) i4 x4) ci v = addRow f ci B 5 n v (v5 x0 x1 x2 x3 x4) := by
  subst e0
  subst e1
  subst e2
  subst e3
  subst e4
  funext j
  unfold addRow
  by_cases q : j = ci
  · rw [if_pos q, q, upd_eq]
  · rw [if_neg q, upd_ne q]
    by_cases r : B + 5 * n ≤ j ∧ j < B + 5 * n + 5
    · rw [if_pos r]
      unfold v5
      by_cases z4 : j = B + 5 * n + 4
      · rw [z4, upd_eq, if_neg (by omega), if_neg (by omega), if_neg (by omega), if_neg (by omega)]
      · rw [upd_ne z4]
        by_cases z3 : j = B + 5 * n + 3
        · rw [z3, upd_eq, if_neg (by omega), if_neg (by omega), if_neg (by omega), if_pos (by omega)]
        · rw [upd_ne z3]
          by_cases z2 : j = B + 5 * n + 2
          · rw [z2, upd_eq, if_neg (by omega), if_neg (by omega), if_pos (by omega)]
          · rw [upd_ne z2]
            by_cases z1 : j = B + 5 * n + 1
            · rw [z1, upd_eq, if_neg (by omega), if_pos (by omega)]
            · rw [upd_ne z1]
              rw [show j = B + 5 * n + 0 by omega, upd_eq, if_pos (by omega)]
    · rw [if_neg r, upd_ne (by omega), upd_ne (by omega), upd_ne (by omega), upd_ne (by omega), upd_ne (by omega)]
def v6 (x0 x1 x2 x3 x4 x5 : Int32) : Nat → Int32 := fun k => if k = 0 then x0 else if k = 1 then x1 else if k = 2 then x2 else if k = 3 then x3 else if k = 4 then x4 else x5
theorem mr6 {f : Nat → Int32} {ci B n i0 i1 i2 i3 i4 i5 : Nat} {v x0 x1 x2 x3 x4 x5 : Int32} (hc : ci < B) (e0 : i0 = B + 6 * n + 0) (e1 : i1 = B + 6 * n + 1) (e2 : i2 = B + 6 * n + 2) (e3 : i3 = B + 6 * n + 3) (e4 : i4 = B + 6 * n + 4) (e5 : i5 = B + 6 * n + 5) : upd (upd (upd (upd (upd (upd (upd f i0 x0) i1 x1) i2 x2) i3 x3) i4 x4) i5 x5) ci v = addRow f ci B 6 n v (v6 x0 x1 x2 x3 x4 x5) := by
  subst e0
  subst e1
  subst e2
  subst e3
  subst e4
  subst e5
  funext j
  unfold addRow
  by_cases q : j = ci
  · rw [if_pos q, q, upd_eq]
  · rw [if_neg q, upd_ne q]
    by_cases r : B + 6 * n ≤ j ∧ j < B + 6 * n + 6
    · rw [if_pos r]
      unfold v6
      by_cases z5 : j = B + 6 * n + 5
      · rw [z5, upd_eq, if_neg (by omega), if_neg (by omega), if_neg (by omega), if_neg (by omega), if_neg (by omega)]
      · rw [upd_ne z5]
        by_cases z4 : j = B + 6 * n + 4
        · rw [z4, upd_eq, if_neg (by omega), if_neg (by omega), if_neg (by omega), if_neg (by omega), if_pos (by omega)]
        · rw [upd_ne z4]
          by_cases z3 : j = B + 6 * n + 3
          · rw [z3, upd_eq, if_neg (by omega), if_neg (by omega), if_neg (by omega), if_pos (by omega)]
          · rw [upd_ne z3]
            by_cases z2 : j = B + 6 * n + 2
            · rw [z2, upd_eq, if_neg (by omega), if_neg (by omega), if_pos (by omega)]
            · rw [upd_ne z2]
              by_cases z1 : j = B + 6 * n + 1
              · rw [z1, upd_eq, if_neg (by omega), if_pos (by omega)]
              · rw [upd_ne z1]
                rw [show j = B + 6 * n + 0 by omega, upd_eq, if_pos (by omega)]
    · rw [if_neg r, upd_ne (by omega), upd_ne (by omega), upd_ne (by omega), upd_ne (by omega), upd_ne (by omega), upd_ne (by omega)]
theorem tg_set6 {f : Nat → Int32} {n r c r' c' : Int} {v : Int32} (h : 0 ≤ r ∧ r < n ∧ 0 ≤ c ∧ c < 6) : tget (tset f n 6 r c v) n 6 r' c' = if r' = r ∧ c' = c then v else tget f n 6 r' c' := by
  unfold tget tset
  rw [if_pos h]
  by_cases q : 0 ≤ r' ∧ r' < n ∧ 0 ≤ c' ∧ c' < 6
  · rw [if_pos q, if_pos q]
    unfold upd
    by_cases e : r' = r ∧ c' = c
    · rw [if_pos e, if_pos (by rw [e.1, e.2])]
    · rw [if_neg e, if_neg (by omega)]
  · rw [if_neg q, if_neg q]
    by_cases e : r' = r ∧ c' = c
    · exact absurd (by omega) q
    · rw [if_neg e]
theorem tg_fil6 {f : Nat → Int32} {n r c : Int} {v : Int32} (h0 : 0 ≤ n) (hr : 0 ≤ r ∧ r ≤ n) (hc : 0 ≤ c ∧ c < 6) : tget (tfil f n 6 v 6) (n + 1) 6 r c = if r = n then v else tget f n 6 r c := by
  unfold tget tfil
  rw [if_pos (by omega)]
  by_cases e : r = n
  · rw [if_pos e, if_pos (by omega)]
  · rw [if_neg e, if_neg (by omega), if_pos (by omega)]
theorem tg_fil24 {f : Nat → Int32} {n r c : Int} {v : Int32} (h0 : 0 ≤ n) (hr : 0 ≤ r ∧ r ≤ n) (hc : 0 ≤ c ∧ c < 24) : tget (tfil f n 24 v 24) (n + 1) 24 r c = if r = n then v else tget f n 24 r c := by
  unfold tget tfil
  rw [if_pos (by omega)]
  by_cases e : r = n
  · rw [if_pos e, if_pos (by omega)]
  · rw [if_neg e, if_neg (by omega), if_pos (by omega)]
/-- a table of the class as the row has it -/
def HTb (B mw : Nat) (cw : Int) (n : Int) (t f : Nat → Int32) : Prop := ∀ r c : Nat, (r : Int) < n → c < mw → f (B + mw * r + c) = tget t n cw r c
theorem ht_add {B mw ci : Nat} {cw : Int} {t t' f : Nat → Int32} {n N : Int} {v : Int32} {vals : Nat → Int32} (h : HTb B mw cw n t f) (hn : 0 ≤ n) (hN : N = n + 1) (hci : ci < B) (h1 : ∀ r c : Nat, (r : Int) < n → c < mw → tget t' N cw r c = tget t n cw r c) (h2 : ∀ c : Nat, c < mw → tget t' N cw n c = vals c) : HTb B mw cw N t' (addRow f ci B mw n.toNat v vals) := by
  intro r c hr hc
  by_cases q : (r : Int) = n
  · have q2 : r = n.toNat := by omega
    unfold addRow
    rw [if_neg (by rw [q2]; omega), if_pos (by rw [q2]; omega), q, h2 c hc]
    congr 1
    rw [q2]; omega
  · have q2 : r + 1 ≤ n.toNat := by omega
    have m := Nat.mul_le_mul_left mw q2
    rw [Nat.mul_add, Nat.mul_one] at m
    rw [ar_ne (by omega) (by omega), h1 r c (by omega) hc]
    exact h r c (by omega) hc
theorem ht_cpy {B mw N : Nat} {cw : Int} {n : Int} {t x f g : Nat → Int32} (h : HTb B mw cw n t f) (hw : 0 ≤ cw) (hN : n * cw ≤ (N : Int)) (e : ∀ r c : Nat, (r : Int) < n → c < mw → g (B + mw * r + c) = f (B + mw * r + c)) : HTb B mw cw n (va_cpy t x 0 0 N) g := by
  intro r c hr hc
  rw [e r c hr hc, h r c hr hc, tget_cpyN hN hw]
def QH (wa : Int64) (le st : Int32) (f : Nat → Int32) : Prop := (∀ c : Nat, c < 64 → (f (10 + c)).toInt = if onB wa (c : Int) = true then 1 else 0) ∧ f 4 = le ∧ f 6 = st
def QG (n : Int32) (t : Nat → Int32) (gb : Int64) (f : Nat → Int32) : Prop := (0 ≤ n.toInt ∧ n.toInt ≤ 6) ∧ f 0 = n ∧ HTb 80 5 5 n.toInt t f ∧ inT gb t n.toInt ∧ (∀ r : Int, 0 ≤ r → r < n.toInt → onB gb (tget t n.toInt 5 r 0).toInt = true)
def QB (n : Int32) (t : Nat → Int32) (bb : Nat → Int64) (f : Nat → Int32) : Prop := (0 ≤ n.toInt ∧ n.toInt ≤ 5) ∧ f 1 = n ∧ HTb 110 24 24 n.toInt t f ∧ (∀ c : Nat, c < 24 → bb c = bbd t n.toInt c n.toInt.toNat) ∧ (∀ r c : Int, 0 ≤ r → r < n.toInt → 0 ≤ c → c < 24 → -1 ≤ (tget t n.toInt 24 r c).toInt ∧ (tget t n.toInt 24 r c).toInt ≤ 63)
def QS (n : Int32) (t f : Nat → Int32) : Prop := (0 ≤ n.toInt ∧ n.toInt ≤ 10) ∧ f 5 = n ∧ HTb 230 4 4 n.toInt t f
def QP (n : Int32) (t f : Nat → Int32) : Prop := (0 ≤ n.toInt ∧ n.toInt ≤ 8) ∧ f 7 = n ∧ HTb 270 3 5 n.toInt t f
def QW (n : Int32) (t f : Nat → Int32) : Prop := (0 ≤ n.toInt ∧ n.toInt ≤ 6) ∧ f 8 = n ∧ HTb 300 6 6 n.toInt t f
theorem hh_c {wa : Int64} {le st : Int32} {f g : Nat → Int32} (h : QH wa le st f) (e : ∀ j : Nat, (j = 4 ∨ j = 6 ∨ (10 ≤ j ∧ j < 74)) → g j = f j) : QH wa le st g :=
  ⟨fun c hc => by rw [e _ (by omega)]; exact h.1 c hc, (e 4 (by omega)).trans h.2.1, (e 6 (by omega)).trans h.2.2⟩
theorem hg_c {n : Int32} {t : Nat → Int32} {gb : Int64} {f g : Nat → Int32} (h : QG n t gb f) (e : ∀ j : Nat, (j = 0 ∨ (80 ≤ j ∧ j < 110)) → g j = f j) : QG n t gb g :=
  ⟨h.1, (e 0 (by omega)).trans h.2.1, fun r c hr hc => (e _ (by have := h.1; omega)).trans (h.2.2.1 r c hr hc), h.2.2.2⟩
theorem hb_c {n : Int32} {t : Nat → Int32} {bb : Nat → Int64} {f g : Nat → Int32} (h : QB n t bb f) (e : ∀ j : Nat, (j = 1 ∨ (110 ≤ j ∧ j < 230)) → g j = f j) : QB n t bb g :=
  ⟨h.1, (e 1 (by omega)).trans h.2.1, fun r c hr hc => (e _ (by have := h.1; omega)).trans (h.2.2.1 r c hr hc), h.2.2.2⟩
theorem hs_c {n : Int32} {t f g : Nat → Int32} (h : QS n t f) (e : ∀ j : Nat, (j = 5 ∨ (230 ≤ j ∧ j < 270)) → g j = f j) : QS n t g :=
  ⟨h.1, (e 5 (by omega)).trans h.2.1, fun r c hr hc => (e _ (by have := h.1; omega)).trans (h.2.2 r c hr hc)⟩
theorem hp_c {n : Int32} {t f g : Nat → Int32} (h : QP n t f) (e : ∀ j : Nat, (j = 7 ∨ (270 ≤ j ∧ j < 294)) → g j = f j) : QP n t g :=
  ⟨h.1, (e 7 (by omega)).trans h.2.1, fun r c hr hc => (e _ (by have := h.1; omega)).trans (h.2.2 r c hr hc)⟩
theorem hwi_c {n : Int32} {t f g : Nat → Int32} (h : QW n t f) (e : ∀ j : Nat, (j = 8 ∨ (300 ≤ j ∧ j < 336)) → g j = f j) : QW n t g :=
  ⟨h.1, (e 8 (by omega)).trans h.2.1, fun r c hr hc => (e _ (by have := h.1; omega)).trans (h.2.2 r c hr hc)⟩
/-! what stands where -/
def gAt (f : Nat → Int32) (c : Int) : Prop := ∃ g : Nat, (g : Int) < (f 0).toInt ∧ (f (80 + 5 * g)).toInt = c
def sAt (f : Nat → Int32) (c : Int) : Prop := ∃ s : Nat, (s : Int) < (f 7).toInt ∧ (f (270 + 3 * s)).toInt = c
def bAt (f : Nat → Int32) (c : Int) : Prop := ∃ k : Nat, (k : Int) < 24 * (f 1).toInt ∧ (f (110 + k)).toInt = c
def takenR (f : Nat → Int32) (c : Int) : Prop := gAt f c ∨ sAt f c ∨ bAt f c ∨ (f 6).toInt = c
def canR (f : Nat → Int32) (c : Int) : Prop := (f (10 + c.toNat)).toInt ≠ 1 ∧ ¬ gAt f c ∧ ¬ sAt f c
def wallAt (f : Nat → Int32) (c : Int) : Prop := 0 ≤ c ∧ (f (10 + c.toNat)).toInt = 1
/-- no wall where something is -/
def NW (f : Nat → Int32) : Prop := ∀ c : Int, 0 ≤ c → c ≤ 63 → takenR f c → (f (10 + c.toNat)).toInt ≠ 1
theorem onB_orT {a b : Int64} {x : Int} (h : onB a x = true) : onB (a ||| b) x = true := by
  unfold onB at h ⊢; rw [Int64.toBitVec_or, BitVec.getLsbD_or, h, Bool.true_or]
theorem onB_orF {a b : Int64} {x : Int} (h : onB (a ||| b) x = false) : onB a x = false ∧ onB b x = false := by
  unfold onB at h ⊢; rw [Int64.toBitVec_or, BitVec.getLsbD_or, Bool.or_eq_false_iff] at h; exact h
theorem onB_orE {a b : Int64} {x : Int} (h : onB (a ||| b) x = true) : onB a x = true ∨ onB b x = true := by
  unfold onB at h ⊢; rw [Int64.toBitVec_or, BitVec.getLsbD_or, Bool.or_eq_true] at h; exact h
theorem bit_of {c : Int32} (h : 0 ≤ c.toInt) : (1 : Int64) <<< (c.toInt64 &&& 63) = bitI c.toInt := by
  unfold bitI; rw [← g5_nI h]
theorem onB_bit {a : Int64} {c : Int32} (h : 0 ≤ c.toInt ∧ c.toInt ≤ 63) {x : Int} (h0 : 0 ≤ x) (h1 : x ≤ 63) : onB (a ||| ((1 : Int64) <<< (c.toInt64 &&& 63))) x = (onB a x || decide (x = c.toInt)) := by
  rw [bit_of h.1, onB_or a h.1 h.2 h0 h1]
theorem hh_wall {wa : Int64} {le st : Int32} {f : Nat → Int32} (h : QH wa le st f) {c : Int} (h0 : 0 ≤ c) (h1 : c ≤ 63) : ((f (10 + c.toNat)).toInt = 1 ↔ onB wa c = true) ∧ ((f (10 + c.toNat)).toInt = 0 ↔ onB wa c = false) := by
  have z := h.1 c.toNat (by omega)
  rw [Int.toNat_of_nonneg h0] at z
  rw [z]
  cases onB wa c <;> simp
theorem wl_y {wa : Int64} {le st : Int32} {f : Nat → Int32} (h : QH wa le st f) {c : Int} (h1 : c ≤ 63) (q : 0 ≤ c ∧ onB wa c = true) : wallAt f c := ⟨q.1, (hh_wall h q.1 h1).1.mpr q.2⟩
theorem wl_n {wa : Int64} {le st : Int32} {f : Nat → Int32} (h : QH wa le st f) {c : Int} (h1 : c ≤ 63) (q : c = -1 ∨ onB wa c = false) : ¬ wallAt f c := by
  rintro ⟨a, b⟩
  rcases q with q | q
  · omega
  · have z := (hh_wall h a h1).1.mp b
    rw [q] at z; exact absurd z (by decide)
theorem gat_iff {n : Int32} {t : Nat → Int32} {gb : Int64} {f : Nat → Int32} (h : QG n t gb f) {c : Int} (h0 : 0 ≤ c) (h1 : c ≤ 63) : onB gb c = true ↔ gAt f c := by
  obtain ⟨hb, h2, h3, h4, h5⟩ := h
  have z0 : (0 : Int32).toInt = 0 := (by decide)
  constructor
  · intro q
    obtain ⟨r, a, b, e⟩ := h4 c h0 h1 q
    refine ⟨r.toNat, by rw [h2]; omega, ?_⟩
    have y := h3 r.toNat 0 (by omega) (by omega)
    rw [Int.toNat_of_nonneg a] at y
    rw [z0] at e
    rw [show 80 + 5 * r.toNat = 80 + 5 * r.toNat + 0 by omega, y]; exact e
  · rintro ⟨g, a, e⟩
    rw [h2] at a
    have y := h3 g 0 a (by omega)
    have w := h5 g (by omega) a
    rw [show 80 + 5 * g = 80 + 5 * g + 0 by omega, y] at e
    rw [← e]; exact w
theorem sat_iff {n : Int32} {t : Nat → Int32} {f : Nat → Int32} (h : QP n t f) {c : Int32} : (∃ r : Int, 0 ≤ r ∧ r < n.toInt ∧ tget t n.toInt 5 r (0 : Int32).toInt = c) ↔ sAt f c.toInt := by
  obtain ⟨hb, h2, h3⟩ := h
  have z0 : (0 : Int32).toInt = 0 := (by decide)
  rw [z0]
  constructor
  · rintro ⟨r, a, b, e⟩
    refine ⟨r.toNat, by rw [h2]; omega, ?_⟩
    have y := h3 r.toNat 0 (by omega) (by omega)
    rw [Int.toNat_of_nonneg a] at y
    rw [show 270 + 3 * r.toNat = 270 + 3 * r.toNat + 0 by omega, y]
    exact congrArg Int32.toInt e
  · rintro ⟨s, a, e⟩
    rw [h2] at a
    have y := h3 s 0 a (by omega)
    rw [show 270 + 3 * s = 270 + 3 * s + 0 by omega, y] at e
    exact ⟨s, by omega, a, Int32.toInt_inj.mp e⟩
theorem onB_bbd {t : Nat → Int32} {n h : Int} (R : ∀ r : Int, 0 ≤ r → r < n → -1 ≤ (tget t n 24 r h).toInt ∧ (tget t n 24 r h).toInt ≤ 63) {x : Int} (h0 : 0 ≤ x) (h1 : x ≤ 63) : ∀ k : Nat, (k : Int) ≤ n → (onB (bbd t n h k) x = true ↔ ∃ r : Nat, r < k ∧ (tget t n 24 r h).toInt = x) := by
  intro k
  induction k with
  | zero =>
    intro _
    constructor
    · intro q
      have z : onB (0 : Int64) x = true := q
      rw [onB_zero] at z; exact absurd z (by decide)
    · rintro ⟨r, a, _⟩; omega
  | succ k ih =>
    intro hk
    have ih := ih (by omega)
    have rk := R k (by omega) (by omega)
    have e : bbd t n h (k + 1) = bbd t n h k ||| (if tget t n 24 k h = -1 then 0 else (1 : Int64) <<< ((tget t n 24 k h).toInt64 &&& 63)) := rfl
    rw [e]
    by_cases q : tget t n 24 k h = -1
    · rw [if_pos q, Int64.or_zero, ih]
      constructor
      · rintro ⟨r, a, b⟩; exact ⟨r, by omega, b⟩
      · rintro ⟨r, a, b⟩
        by_cases z : r = k
        · subst z
          rw [q] at b
          have y : (-1 : Int32).toInt = -1 := (by decide)
          omega
        · exact ⟨r, by omega, b⟩
    · have pos : 0 ≤ (tget t n 24 k h).toInt := by
        by_cases z : (tget t n 24 k h).toInt = -1
        · exact absurd (g5_toc (n := -1) (by decide) z) q
        · omega
      rw [if_neg q, onB_bit ⟨pos, rk.2⟩ h0 h1, Bool.or_eq_true, ih, decide_eq_true_eq]
      constructor
      · rintro (⟨r, a, b⟩ | b)
        · exact ⟨r, by omega, b⟩
        · exact ⟨k, by omega, b.symm⟩
      · rintro ⟨r, a, b⟩
        by_cases z : r = k
        · subst z; exact Or.inr b.symm
        · exact Or.inl ⟨r, by omega, b⟩
theorem bat_iff {n : Int32} {t : Nat → Int32} {bb : Nat → Int64} {f : Nat → Int32} (h : QB n t bb f) {c : Int} (h0 : 0 ≤ c) (h1 : c ≤ 63) : (∃ h : Nat, h < 24 ∧ onB (bb h) c = true) ↔ bAt f c := by
  obtain ⟨hb, h2, h3, h4, h5⟩ := h
  constructor
  · rintro ⟨k, hk, q⟩
    rw [h4 k hk, onB_bbd (fun r a b => h5 r k a b (by omega) (by omega)) h0 h1 _ (by omega)] at q
    obtain ⟨r, a, b⟩ := q
    refine ⟨24 * r + k, by rw [h2]; omega, ?_⟩
    rw [show 110 + (24 * r + k) = 110 + 24 * r + k by omega, h3 r k (by omega) hk]; exact b
  · rintro ⟨k, a, b⟩
    rw [h2] at a
    refine ⟨k % 24, by omega, ?_⟩
    rw [h4 _ (by omega), onB_bbd (fun r a b => h5 r _ a b (by omega) (by omega)) h0 h1 _ (by omega)]
    refine ⟨k / 24, by omega, ?_⟩
    rw [← h3 (k / 24) (k % 24) (by omega) (by omega), show 110 + 24 * (k / 24) + k % 24 = 110 + k by omega]; exact b
theorem tk_y {wa : Int64} {le st n m k : Int32} {t u v : Nat → Int32} {gb : Int64} {bb : Nat → Int64} {f : Nat → Int32} {c : Int32} (hH : QH wa le st f) (hG : QG n t gb f) (hB : QB m u bb f) (hP : QP k v f) (hc : 0 ≤ c.toInt ∧ c.toInt ≤ 63) (q : (∃ h : Nat, h < 24 ∧ onB (bb h) c.toInt = true) ∨ onB gb c.toInt = true ∨ (∃ r : Int, 0 ≤ r ∧ r < k.toInt ∧ tget v k.toInt 5 r (0 : Int32).toInt = c) ∨ st = c) : takenR f c.toInt := by
  rcases q with q | q | q | q
  · exact Or.inr (Or.inr (Or.inl ((bat_iff hB hc.1 hc.2).mp q)))
  · exact Or.inl ((gat_iff hG hc.1 hc.2).mp q)
  · exact Or.inr (Or.inl ((sat_iff hP).mp q))
  · exact Or.inr (Or.inr (Or.inr (by rw [hH.2.2, q])))
theorem tk_n {wa : Int64} {le st n m k : Int32} {t u v : Nat → Int32} {gb : Int64} {bb : Nat → Int64} {f : Nat → Int32} {c : Int32} (hH : QH wa le st f) (hG : QG n t gb f) (hB : QB m u bb f) (hP : QP k v f) (hc : 0 ≤ c.toInt ∧ c.toInt ≤ 63) (q : (∀ h : Nat, h < 24 → onB (bb h) c.toInt = false) ∧ onB gb c.toInt = false ∧ (∀ r : Int, 0 ≤ r → r < k.toInt → tget v k.toInt 5 r (0 : Int32).toInt ≠ c) ∧ st ≠ c) : ¬ takenR f c.toInt := by
  obtain ⟨q1, q2, q3, q4⟩ := q
  rintro (z | z | z | z)
  · have y := (gat_iff hG hc.1 hc.2).mpr z
    rw [q2] at y; exact absurd y (by decide)
  · obtain ⟨r, a, b, e⟩ := (sat_iff hP).mpr z
    exact q3 r a b e
  · obtain ⟨h, a, b⟩ := (bat_iff hB hc.1 hc.2).mpr z
    rw [q1 h a] at b; exact absurd b (by decide)
  · rw [hH.2.2] at z; exact q4 (Int32.toInt_inj.mp z)
theorem cn_y {wa : Int64} {le st n k : Int32} {t v : Nat → Int32} {gb : Int64} {f : Nat → Int32} {c : Int32} (hH : QH wa le st f) (hG : QG n t gb f) (hP : QP k v f) (hc : 0 ≤ c.toInt ∧ c.toInt ≤ 63) (q1 : onB (wa ||| gb) c.toInt = false) (q2 : ∀ r : Int, 0 ≤ r → r < k.toInt → tget v k.toInt 5 r (0 : Int32).toInt ≠ c) : canR f c.toInt := by
  obtain ⟨a, b⟩ := onB_orF q1
  refine ⟨fun z => ?_, fun z => ?_, fun z => ?_⟩
  · have y := (hh_wall hH hc.1 hc.2).1.mp z
    rw [a] at y; exact absurd y (by decide)
  · have y := (gat_iff hG hc.1 hc.2).mpr z
    rw [b] at y; exact absurd y (by decide)
  · obtain ⟨r, x, y, e⟩ := (sat_iff hP).mpr z
    exact q2 r x y e
theorem cn_n {wa : Int64} {le st n k : Int32} {t v : Nat → Int32} {gb : Int64} {f : Nat → Int32} {c : Int32} (hH : QH wa le st f) (hG : QG n t gb f) (hP : QP k v f) (hc : 0 ≤ c.toInt ∧ c.toInt ≤ 63) (q : onB (wa ||| gb) c.toInt = true ∨ ∃ r : Int, 0 ≤ r ∧ r < k.toInt ∧ tget v k.toInt 5 r (0 : Int32).toInt = c) : ¬ canR f c.toInt := by
  rintro ⟨z1, z2, z3⟩
  rcases q with q | q
  · rcases onB_orE q with y | y
    · exact z1 ((hh_wall hH hc.1 hc.2).1.mpr y)
    · exact z2 ((gat_iff hG hc.1 hc.2).mp y)
  · exact z3 ((sat_iff hP).mp q)
