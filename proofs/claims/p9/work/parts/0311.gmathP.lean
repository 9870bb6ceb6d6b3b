/-! the model's reader: its tokens, its pile, its code, the heights of what is reckoned -/
def TKs (so fr to : Int) : Prop := so = 0 ∨ fr < to
theorem tks_lt {so fr to : Int} (h : TKs so fr to) (q : ¬ so = 0) : fr < to := by
  rcases h with h | h
  · exact absurd h q
  · exact h
theorem tk_exit {f : Nat → Int32} {x y : Int32} {lo hi : Int} (h : x.toInt < y.toInt ∨ (lo ≤ (f x.toNatClampNeg).toInt ∧ (f x.toNatClampNeg).toInt ≤ hi ∧ y.toInt = x.toInt)) (n : (f y.toNatClampNeg).toInt < lo ∨ hi < (f y.toNatClampNeg).toInt) : x.toInt < y.toInt := by
  rcases h with h | ⟨h1, h2, h3⟩
  · exact h
  · rw [show y = x from Int32.toInt_inj.mp h3] at n
    omega
def twt (t : Int) : Int := if t = 3 then 2 else if t = 2 then 1 else 0
theorem twt_rg (t : Int) : 0 ≤ twt t ∧ twt t ≤ 2 := by
  unfold twt
  split
  · omega
  · split <;> omega
theorem twt_0 {t : Int} (h : t = 0 ∨ t = 1 ∨ t = 4) : twt t = 0 := by
  unfold twt; rw [if_neg (by omega), if_neg (by omega)]
theorem twt_2 {t : Int} (h : t = 2) : twt t = 1 := by
  unfold twt; rw [if_neg (by omega), if_pos h]
theorem twt_3 {t : Int} (h : t = 3) : twt t = 2 := by
  unfold twt; rw [if_pos h]
def bnd (x : Int) : Int := if 30 ≤ x then 0 else if x = 29 then 1 else if x = 28 then 2 else if x = 27 then 3 else if 24 ≤ x then 4 else if 22 ≤ x then 6 else 5
theorem bnd_0 {x : Int} (h : 30 ≤ x) : bnd x = 0 := by unfold bnd; rw [if_pos h]
theorem bnd_1 {x : Int} (h : x = 29) : bnd x = 1 := by unfold bnd; rw [if_neg (by omega), if_pos h]
theorem bnd_2 {x : Int} (h : x = 28) : bnd x = 2 := by unfold bnd; rw [if_neg (by omega), if_neg (by omega), if_pos h]
theorem bnd_3 {x : Int} (h : x = 27) : bnd x = 3 := by unfold bnd; rw [if_neg (by omega), if_neg (by omega), if_neg (by omega), if_pos h]
theorem bnd_4 {x : Int} (h : 24 ≤ x) (h2 : x < 27) : bnd x = 4 := by unfold bnd; rw [if_neg (by omega), if_neg (by omega), if_neg (by omega), if_neg (by omega), if_pos h]
theorem bnd_6 {x : Int} (h : 22 ≤ x) (h2 : x < 24) : bnd x = 6 := by unfold bnd; rw [if_neg (by omega), if_neg (by omega), if_neg (by omega), if_neg (by omega), if_neg (by omega), if_pos h]
theorem bnd_5 {x : Int} (h : x < 22) : bnd x = 5 := by unfold bnd; rw [if_neg (by omega), if_neg (by omega), if_neg (by omega), if_neg (by omega), if_neg (by omega), if_neg (by omega)]
theorem bnd_lt5 {x : Int} (h : bnd x < 5) : 24 ≤ x := by
  by_cases q : 24 ≤ x
  · exact q
  · exfalso
    by_cases q2 : 22 ≤ x
    · have z := bnd_6 q2 (by omega); omega
    · have z := bnd_5 (x := x) (by omega); omega
theorem bnd_lt1 {x : Int} (h : bnd x < 1) : 30 ≤ x := by
  by_cases q : 30 ≤ x
  · exact q
  · exfalso
    by_cases q1 : x = 29
    · have z := bnd_1 q1; omega
    by_cases q2 : x = 28
    · have z := bnd_2 q2; omega
    by_cases q3 : x = 27
    · have z := bnd_3 q3; omega
    by_cases q4 : 24 ≤ x
    · have z := bnd_4 q4 (by omega); omega
    have z := bnd_lt5 (x := x) (by omega); omega
theorem bnd_ge1 {x : Int} (h : 1 ≤ bnd x) : x < 30 := by
  by_cases q : 30 ≤ x
  · have z := bnd_0 q; omega
  · omega
def nbP (pl : Nat → Int32) : Nat → Int
  | 0 => 0
  | n + 1 => nbP pl n + (if (pl n).toInt < 28 then 1 else 0)
def biP (pl : Nat → Int32) : Nat → Nat
  | 0 => 0
  | n + 1 => biP pl n + (if (pl n).toInt < 27 then 1 else 0)
theorem nbP_S (pl : Nat → Int32) (n : Nat) : nbP pl (n + 1) = nbP pl n + (if (pl n).toInt < 28 then 1 else 0) := rfl
theorem biP_S (pl : Nat → Int32) (n : Nat) : biP pl (n + 1) = biP pl n + (if (pl n).toInt < 27 then 1 else 0) := rfl
theorem nbP_ge (pl : Nat → Int32) (n : Nat) : 0 ≤ nbP pl n := by
  induction n with
  | zero => exact Int.le_refl _
  | succ n ih =>
    rw [nbP_S]
    split <;> omega
theorem nbP_congr {pl pl' : Nat → Int32} (n : Nat) (e : ∀ i : Nat, i < n → pl' i = pl i) : nbP pl' n = nbP pl n := by
  induction n with
  | zero => rfl
  | succ n ih => rw [nbP_S, nbP_S, ih (fun i h => e i (by omega)), e n (by omega)]
theorem biP_congr {pl pl' : Nat → Int32} (n : Nat) (e : ∀ i : Nat, i < n → pl' i = pl i) : biP pl' n = biP pl n := by
  induction n with
  | zero => rfl
  | succ n ih => rw [biP_S, biP_S, ih (fun i h => e i (by omega)), e n (by omega)]
theorem nbP_push {pl : Nat → Int32} {P : Nat} {x : Int32} : nbP (upd pl P x) (P + 1) = nbP pl P + (if x.toInt < 28 then 1 else 0) := by
  rw [nbP_S, upd_eq, nbP_congr P (fun i h => upd_ne (by omega))]
theorem biP_push {pl : Nat → Int32} {P : Nat} {x : Int32} : biP (upd pl P x) (P + 1) = biP pl P + (if x.toInt < 27 then 1 else 0) := by
  rw [biP_S, upd_eq, biP_congr P (fun i h => upd_ne (by omega))]
def isJ (x : Int32) : Prop := x.toInt = 28 ∨ x.toInt = 29
/-- what always holds of the pile and of the code, whether the text is bad or not -/
def XJ (go ga op ar pl pa : Nat → Int32) (a m p fr : Int) : Prop := 0 ≤ a ∧ a ≤ m ∧ 0 ≤ p ∧ p ≤ fr ∧ m + nbP pl p.toNat ≤ fr ∧ (∀ k : Nat, (k : Int) < a → op k = go k ∧ ar k = ga k) ∧ (∀ i : Nat, (i : Int) < p → 20 ≤ (pl i).toInt ∧ (pl i).toInt ≤ 31 ∧ (isJ (pl i) → a ≤ (pa i).toInt ∧ (pa i).toInt < m))
theorem xj_0 {op ar pl pa : Nat → Int32} {m p fr : Int} (hp : p = 0) (h0 : 0 ≤ m) (h1 : m ≤ fr) : XJ op ar op ar pl pa m m p fr := by
  subst hp
  exact ⟨h0, Int.le_refl _, Int.le_refl _, by omega, by show m + 0 ≤ fr; omega, fun _ _ => ⟨rfl, rfl⟩, fun i h => by omega⟩
theorem xj_mf {go ga op ar pl pa : Nat → Int32} {a m p fr : Int} (X : XJ go ga op ar pl pa a m p fr) : m ≤ fr ∧ p ≤ fr ∧ 0 ≤ a ∧ a ≤ m := by
  obtain ⟨x1, x2, x3, x4, x5, x6, x7⟩ := X
  have z := nbP_ge pl p.toNat
  omega
theorem xj_at {go ga op ar pl pa : Nat → Int32} {a m fr : Int} {p p' : Int32} (X : XJ go ga op ar pl pa a m p.toInt fr) (h : 0 < p.toInt) (e : p'.toInt = p.toInt - 1) : 20 ≤ (pl p'.toNatClampNeg).toInt ∧ (pl p'.toNatClampNeg).toInt ≤ 31 := by
  have c := g5_clamp p'
  have z := X.2.2.2.2.2.2 p'.toNatClampNeg (by omega)
  exact ⟨z.1, z.2.1⟩
theorem xj_pa {go ga op ar pl pa : Nat → Int32} {a m fr : Int} {p p' : Int32} (X : XJ go ga op ar pl pa a m p.toInt fr) (h : 0 < p.toInt) (e : p'.toInt = p.toInt - 1) (hf : fr ≤ 400) (j : isJ (pl p'.toNatClampNeg)) : 0 ≤ (pa p'.toNatClampNeg).toInt ∧ (pa p'.toNatClampNeg).toInt ≤ 399 := by
  have c := g5_clamp p'
  have z := (X.2.2.2.2.2.2 p'.toNatClampNeg (by omega)).2.2 j
  have y := xj_mf X
  omega
theorem xj_room {go ga op ar pl pa : Nat → Int32} {a m fr : Int} {p p' : Int32} (X : XJ go ga op ar pl pa a m p.toInt fr) (h : 0 < p.toInt) (e : p'.toInt = p.toInt - 1) (hf : fr ≤ 400) (x : (pl p'.toNatClampNeg).toInt < 28) : m < 400 := by
  have c := g5_clamp p'
  have y : m + nbP pl p.toInt.toNat ≤ fr := X.2.2.2.2.1
  rw [show p.toInt.toNat = p'.toNatClampNeg + 1 by omega, nbP_S, if_pos x] at y
  have z := nbP_ge pl p'.toNatClampNeg
  omega
theorem xj_up {go ga op ar pl pa : Nat → Int32} {a m p fr fr' : Int} (X : XJ go ga op ar pl pa a m p fr) (h : fr ≤ fr') : XJ go ga op ar pl pa a m p fr' := by
  obtain ⟨x1, x2, x3, x4, x5, x6, x7⟩ := X
  exact ⟨x1, x2, x3, by omega, by omega, x6, x7⟩
/-- a step more -/
theorem xj_emit {go ga op ar pl pa : Nat → Int32} {a p fr fr' : Int} {m m' x y : Int32} (X : XJ go ga op ar pl pa a m.toInt p fr) (e : m'.toInt = m.toInt + 1) (hf : fr + 1 ≤ fr') : XJ go ga (upd op m.toNatClampNeg x) (upd ar m.toNatClampNeg y) pl pa a m'.toInt p fr' := by
  obtain ⟨x1, x2, x3, x4, x5, x6, x7⟩ := X
  have c := g5_clamp m
  refine ⟨x1, by omega, x3, by omega, by omega, fun k hk => ?_, fun i hi => ?_⟩
  · rw [upd_ne (by omega), upd_ne (by omega)]; exact x6 k hk
  · have z := x7 i hi
    exact ⟨z.1, z.2.1, fun j => by have w := z.2.2 j; omega⟩
/-- what stood on top of the pile is a step now -/
theorem xj_popE {go ga op ar pl pa : Nat → Int32} {a fr : Int} {m m' p p' x y : Int32} (X : XJ go ga op ar pl pa a m.toInt p.toInt fr) (h : 0 < p.toInt) (e : p'.toInt = p.toInt - 1) (em : m'.toInt = m.toInt + 1) (hx : (pl p'.toNatClampNeg).toInt < 28) : XJ go ga (upd op m.toNatClampNeg x) (upd ar m.toNatClampNeg y) pl pa a m'.toInt p'.toInt fr := by
  obtain ⟨x1, x2, x3, x4, x5, x6, x7⟩ := X
  have c := g5_clamp m
  have d := g5_clamp p'
  rw [show p.toInt.toNat = p'.toInt.toNat + 1 by omega, nbP_S, show p'.toInt.toNat = p'.toNatClampNeg from rfl, if_pos hx] at x5
  refine ⟨x1, by omega, by omega, by omega, by rw [show p'.toInt.toNat = p'.toNatClampNeg from rfl]; omega, fun k hk => ?_, fun i hi => ?_⟩
  · rw [upd_ne (by omega), upd_ne (by omega)]; exact x6 k hk
  · have z := x7 i (by omega)
    exact ⟨z.1, z.2.1, fun j => by have w := z.2.2 j; omega⟩
theorem xj_popB {go ga op ar pl pa : Nat → Int32} {a m fr : Int} {p p' : Int32} (X : XJ go ga op ar pl pa a m p.toInt fr) (h : 0 < p.toInt) (e : p'.toInt = p.toInt - 1) : XJ go ga op ar pl pa a m p'.toInt fr := by
  obtain ⟨x1, x2, x3, x4, x5, x6, x7⟩ := X
  have s : nbP pl p.toInt.toNat = nbP pl p'.toInt.toNat + (if (pl p'.toInt.toNat).toInt < 28 then 1 else 0) := by
    rw [show p.toInt.toNat = p'.toInt.toNat + 1 by omega, nbP_S]
  have t : (0 : Int) ≤ (if (pl p'.toInt.toNat).toInt < 28 then 1 else 0) := by split <;> omega
  exact ⟨x1, x2, by omega, by omega, by omega, x6, fun i hi => x7 i (by omega)⟩
theorem xj_popJ {go ga op ar pl pa : Nat → Int32} {a fr : Int} {m p p' : Int32} (X : XJ go ga op ar pl pa a m.toInt p.toInt fr) (h : 0 < p.toInt) (e : p'.toInt = p.toInt - 1) (j : isJ (pl p'.toNatClampNeg)) : XJ go ga op (upd ar (pa p'.toNatClampNeg).toNatClampNeg m) pl pa a m.toInt p'.toInt fr := by
  have w := (X.2.2.2.2.2.2 p'.toNatClampNeg (by have d := g5_clamp p'; omega)).2.2 j
  obtain ⟨x1, x2, x3, x4, x5, x6, x7⟩ := xj_popB X h e
  have c := g5_clamp (pa p'.toNatClampNeg)
  exact ⟨x1, x2, x3, x4, x5, fun k hk => ⟨(x6 k hk).1, by rw [upd_ne (by omega)]; exact (x6 k hk).2⟩, x7⟩
/-- one more on the pile -/
theorem xj_push {go ga op ar pl pa : Nat → Int32} {a m fr fr' : Int} {p p' x y : Int32} (X : XJ go ga op ar pl pa a m p.toInt fr) (e : p'.toInt = p.toInt + 1) (hf : fr + 1 ≤ fr') (hx : 20 ≤ x.toInt ∧ x.toInt ≤ 31) (hj : x.toInt < 28 ∨ 29 < x.toInt) : XJ go ga op ar (upd pl p.toNatClampNeg x) (upd pa p.toNatClampNeg y) a m p'.toInt fr' := by
  obtain ⟨x1, x2, x3, x4, x5, x6, x7⟩ := X
  have c := g5_clamp p
  have s : nbP (upd pl p.toNatClampNeg x) p'.toInt.toNat = nbP pl p.toInt.toNat + (if x.toInt < 28 then 1 else 0) := by
    rw [show p'.toInt.toNat = p.toNatClampNeg + 1 by omega, nbP_push]; rfl
  have t : (if x.toInt < 28 then (1 : Int) else 0) ≤ 1 := by split <;> omega
  refine ⟨x1, x2, by omega, by omega, by omega, x6, fun i hi => ?_⟩
  by_cases q : i = p.toNatClampNeg
  · subst q
    rw [upd_eq]
    exact ⟨hx.1, hx.2, fun j => by unfold isJ at j; omega⟩
  · rw [upd_ne q, upd_ne q]; exact x7 i (by omega)
theorem xj_pushJ {go ga op ar pl pa : Nat → Int32} {a fr fr' : Int} {m m' p p' x z : Int32} (X : XJ go ga op ar pl pa a m.toInt p.toInt fr) (e : p'.toInt = p.toInt + 1) (em : m'.toInt = m.toInt + 1) (hf : fr + 1 ≤ fr') (hx : isJ x) : XJ go ga (upd op m.toNatClampNeg x) (upd ar m.toNatClampNeg z) (upd pl p.toNatClampNeg x) (upd pa p.toNatClampNeg m) a m'.toInt p'.toInt fr' := by
  obtain ⟨x1, x2, x3, x4, x5, x6, x7⟩ := X
  have c := g5_clamp p
  have d := g5_clamp m
  have hx2 := hx
  unfold isJ at hx2
  have s : nbP (upd pl p.toNatClampNeg x) p'.toInt.toNat = nbP pl p.toInt.toNat := by
    rw [show p'.toInt.toNat = p.toNatClampNeg + 1 by omega, nbP_push, if_neg (by omega)]
    show nbP pl p.toNatClampNeg + 0 = nbP pl p.toNatClampNeg
    omega
  refine ⟨x1, by omega, by omega, by omega, by omega, fun k hk => ?_, fun i hi => ?_⟩
  · rw [upd_ne (by omega), upd_ne (by omega)]; exact x6 k hk
  · by_cases q : i = p.toNatClampNeg
    · subst q
      rw [upd_eq, upd_eq]
      exact ⟨by omega, by omega, fun _ => by omega⟩
    · rw [upd_ne q, upd_ne q]
      have z := x7 i (by omega)
      exact ⟨z.1, z.2.1, fun j => by have w := z.2.2 j; omega⟩
/-! the heights -/
def hSt (op ar pl pa : Nat → Int32) (h : Nat → Nat) (k : Nat) (m p : Int) : Prop := h k ≤ k ∧ ((0 ≤ (op k).toInt ∧ (op k).toInt ≤ 8 ∧ h (k + 1) = h k + 1) ∨ (20 ≤ (op k).toInt ∧ (op k).toInt ≤ 26 ∧ 2 ≤ h k ∧ h (k + 1) + 1 = h k) ∨ ((op k).toInt = 27 ∧ 1 ≤ h k ∧ h (k + 1) = h k) ∨ (isJ (op k) ∧ 1 ≤ h k ∧ h (k + 1) + 1 = h k ∧ (((k : Int) < (ar k).toInt ∧ (ar k).toInt ≤ m ∧ h (ar k).toInt.toNat = h k) ∨ ∃ i : Nat, (i : Int) < p ∧ isJ (pl i) ∧ (pa i).toInt = (k : Int))))
def HG (op ar pl pa : Nat → Int32) (h : Nat → Nat) (a m p : Int) (d : Nat) : Prop := h a.toNat = 0 ∧ h m.toNat = biP pl p.toNat + d ∧ h m.toNat ≤ m.toNat ∧ (∀ k : Nat, a ≤ (k : Int) → (k : Int) < m → hSt op ar pl pa h k m p) ∧ (∀ i : Nat, (i : Int) < p → isJ (pl i) → h (pa i).toInt.toNat = biP pl i + 1)
def SQ (pl : Nat → Int32) (p : Int) : Prop := ∀ i j : Nat, i < j → (j : Int) < p → (pl i).toInt = 31 → (pl j).toInt ≤ 23 ∨ (pl j).toInt = 31
def no31 (pl : Nat → Int32) (p : Int) : Prop := ∀ i : Nat, (i : Int) < p → (pl i).toInt ≠ 31
def no30 (pl : Nat → Int32) (p : Int) : Prop := ∀ i : Nat, (i : Int) < p → (pl i).toInt < 30
def HJ (op ar pl pa : Nat → Int32) (a m p : Int) (d : Nat) : Prop := (∃ h : Nat → Nat, HG op ar pl pa h a m p d) ∧ SQ pl p
theorem hg_emit {op ar pl pa : Nat → Int32} {h : Nat → Nat} {a m p : Int} {d M v d' : Nat} {x y : Int32} (H : HG op ar pl pa h a m p d) (hM : (M : Int) = m) (h0 : 0 ≤ a) (ha : a ≤ m) (hp : ∀ i : Nat, (i : Int) < p → isJ (pl i) → 0 ≤ (pa i).toInt ∧ (pa i).toInt ≤ m) (hv : v ≤ M + 1) (hd : v = biP pl p.toNat + d') (st : (0 ≤ x.toInt ∧ x.toInt ≤ 8 ∧ v = h M + 1) ∨ (20 ≤ x.toInt ∧ x.toInt ≤ 26 ∧ 2 ≤ h M ∧ v + 1 = h M) ∨ (x.toInt = 27 ∧ 1 ≤ h M ∧ v = h M) ∨ (isJ x ∧ 1 ≤ h M ∧ v + 1 = h M ∧ ∃ i : Nat, (i : Int) < p ∧ isJ (pl i) ∧ (pa i).toInt = (M : Int))) : ∃ h' : Nat → Nat, HG (upd op M x) (upd ar M y) pl pa h' a (m + 1) p d' := by
  obtain ⟨h1, h2, h3, h4, h5⟩ := H
  obtain ⟨h', e1, e2⟩ : ∃ h' : Nat → Nat, h' (M + 1) = v ∧ ∀ k : Nat, k ≠ M + 1 → h' k = h k := ⟨fun k => if k = M + 1 then v else h k, if_pos rfl, fun k hk => if_neg hk⟩
  have em : (m + 1).toNat = M + 1 := by omega
  refine ⟨h', ?_, ?_, ?_, ?_, ?_⟩
  · rw [e2 a.toNat (by omega)]; exact h1
  · rw [em, e1]; exact hd
  · rw [em, e1]; exact hv
  · intro k hk1 hk2
    by_cases q : k = M
    · subst q
      have u1 : upd op k x k = x := upd_eq
      have u2 : h' k = h k := e2 k (by omega)
      have hk : h k ≤ k := by
        have z : m.toNat = k := by clear st; omega
        rw [z] at h3; exact h3
      unfold hSt
      rw [u1, u2, e1]
      refine ⟨hk, ?_⟩
      rcases st with s | s | s | ⟨s1, s2, s3, s4⟩
      · exact Or.inl s
      · exact Or.inr (Or.inl s)
      · exact Or.inr (Or.inr (Or.inl s))
      · exact Or.inr (Or.inr (Or.inr ⟨s1, s2, s3, Or.inr s4⟩))
    · have z := h4 k hk1 (by omega)
      have u1 : upd op M x k = op k := upd_ne q
      have u2 : upd ar M y k = ar k := upd_ne q
      have u3 : h' k = h k := e2 k (by omega)
      have u4 : h' (k + 1) = h (k + 1) := e2 (k + 1) (by omega)
      unfold hSt at z ⊢
      rw [u1, u2, u3, u4]
      obtain ⟨z1, z2⟩ := z
      refine ⟨z1, ?_⟩
      rcases z2 with s | s | s | ⟨s1, s2, s3, s4⟩
      · exact Or.inl s
      · exact Or.inr (Or.inl s)
      · exact Or.inr (Or.inr (Or.inl s))
      · refine Or.inr (Or.inr (Or.inr ⟨s1, s2, s3, ?_⟩))
        rcases s4 with ⟨t1, t2, t3⟩ | t
        · exact Or.inl ⟨t1, by omega, by rw [e2 (ar k).toInt.toNat (by omega)]; exact t3⟩
        · exact Or.inr t
  · intro i hi hj
    have z := h5 i hi hj
    have b := hp i hi hj
    rw [e2 (pa i).toInt.toNat (by omega)]; exact z
theorem hg_push {op ar pl pa : Nat → Int32} {h : Nat → Nat} {a m p : Int} {d P d' : Nat} {x y : Int32} (H : HG op ar pl pa h a m p d) (hP : (P : Int) = p) (hd : biP pl P + d = biP (upd pl P x) (P + 1) + d') (hj : isJ x → y.toInt.toNat = m.toNat ∧ d = 1) : HG op ar (upd pl P x) (upd pa P y) h a m (p + 1) d' := by
  obtain ⟨h1, h2, h3, h4, h5⟩ := H
  have ep : (p + 1).toNat = P + 1 := by omega
  have ep2 : p.toNat = P := by omega
  rw [ep2] at h2
  refine ⟨h1, ?_, h3, ?_, ?_⟩
  · rw [ep]; omega
  · intro k hk1 hk2
    have z := h4 k hk1 hk2
    unfold hSt at z ⊢
    obtain ⟨z1, z2⟩ := z
    refine ⟨z1, ?_⟩
    rcases z2 with s | s | s | ⟨s1, s2, s3, s4⟩
    · exact Or.inl s
    · exact Or.inr (Or.inl s)
    · exact Or.inr (Or.inr (Or.inl s))
    · refine Or.inr (Or.inr (Or.inr ⟨s1, s2, s3, ?_⟩))
      rcases s4 with t | ⟨i, i1, i2, i3⟩
      · exact Or.inl t
      · exact Or.inr ⟨i, by omega, by rw [upd_ne (by omega)]; exact i2, by rw [upd_ne (by omega)]; exact i3⟩
  · intro i hi hj2
    by_cases q : i = P
    · subst q
      rw [upd_eq] at hj2 ⊢
      have w := hj hj2
      rw [w.1, h2, biP_congr i (fun j hj => upd_ne (by omega)), w.2]
    · rw [upd_ne q] at hj2 ⊢
      rw [biP_congr i (fun j hj => upd_ne (by omega))]
      exact h5 i (by omega) hj2
theorem hg_pop {op ar pl pa : Nat → Int32} {h : Nat → Nat} {a m p : Int} {d P d' : Nat} (H : HG op ar pl pa h a m p d) (hP : (P : Int) + 1 = p) (hd : biP pl (P + 1) + d = biP pl P + d') (hj : ¬ isJ (pl P)) : HG op ar pl pa h a m (P : Int) d' := by
  obtain ⟨h1, h2, h3, h4, h5⟩ := H
  rw [show p.toNat = P + 1 by omega] at h2
  refine ⟨h1, ?_, h3, ?_, fun i hi => h5 i (by omega)⟩
  · rw [show ((P : Nat) : Int).toNat = P by omega]; omega
  · intro k hk1 hk2
    have z := h4 k hk1 hk2
    unfold hSt at z ⊢
    obtain ⟨z1, z2⟩ := z
    refine ⟨z1, ?_⟩
    rcases z2 with s | s | s | ⟨s1, s2, s3, s4⟩
    · exact Or.inl s
    · exact Or.inr (Or.inl s)
    · exact Or.inr (Or.inr (Or.inl s))
    · refine Or.inr (Or.inr (Or.inr ⟨s1, s2, s3, ?_⟩))
      rcases s4 with t | ⟨i, i1, i2, i3⟩
      · exact Or.inl t
      · by_cases q : i = P
        · subst q; exact absurd i2 hj
        · exact Or.inr ⟨i, by omega, i2, i3⟩
theorem hg_res {op ar pl pa : Nat → Int32} {h : Nat → Nat} {a m p : Int} {P Q : Nat} {y : Int32} (H : HG op ar pl pa h a m p 1) (hP : (P : Int) + 1 = p) (j : isJ (pl P)) (hQ : (Q : Int) = (pa P).toInt) (hb : (pa P).toInt < m) (hy : y.toInt = m) : HG op (upd ar Q y) pl pa h a m (P : Int) 1 := by
  obtain ⟨h1, h2, h3, h4, h5⟩ := H
  have j2 := j
  unfold isJ at j2
  rw [show p.toNat = P + 1 by omega, biP_S, if_neg (by omega)] at h2
  have hq : h Q = biP pl P + 1 := by
    have z := h5 P (by omega) j
    rw [show (pa P).toInt.toNat = Q by omega] at z; exact z
  refine ⟨h1, ?_, h3, ?_, fun i hi => h5 i (by omega)⟩
  · rw [show ((P : Nat) : Int).toNat = P by omega]; omega
  · intro k hk1 hk2
    have z := h4 k hk1 hk2
    unfold hSt at z ⊢
    obtain ⟨z1, z2⟩ := z
    refine ⟨z1, ?_⟩
    rcases z2 with s | s | s | ⟨s1, s2, s3, s4⟩
    · exact Or.inl s
    · exact Or.inr (Or.inl s)
    · exact Or.inr (Or.inr (Or.inl s))
    · refine Or.inr (Or.inr (Or.inr ⟨s1, s2, s3, ?_⟩))
      by_cases q : k = Q
      · subst q
        refine Or.inl ?_
        rw [upd_eq]
        exact ⟨by omega, by omega, by rw [hy, hq, h2]⟩
      · rw [upd_ne q]
        rcases s4 with t | ⟨i, i1, i2, i3⟩
        · exact Or.inl t
        · by_cases r : i = P
          · subst r; exact absurd (show k = Q by omega) q
          · exact Or.inr ⟨i, by omega, i2, i3⟩
theorem hj_0 {op ar pl pa : Nat → Int32} {m p : Int} (hp : p = 0) : HJ op ar pl pa m m p 0 := by
  subst hp
  exact ⟨⟨fun _ => 0, rfl, rfl, Nat.zero_le _, fun k h1 h2 => absurd h2 (by omega), fun i h => absurd h (by omega)⟩, fun i j _ h => absurd h (by omega)⟩
theorem xj_hp {go ga op ar pl pa : Nat → Int32} {a m p fr : Int} (X : XJ go ga op ar pl pa a m p fr) : ∀ i : Nat, (i : Int) < p → isJ (pl i) → 0 ≤ (pa i).toInt ∧ (pa i).toInt ≤ m := by
  intro i hi j
  have w := (X.2.2.2.2.2.2 i hi).2.2 j
  have a0 := X.1
  omega
/-- a leaf -/
theorem hj_leaf {go ga op ar pl pa : Nat → Int32} {a p fr : Int} {m m' x y : Int32} (X : XJ go ga op ar pl pa a m.toInt p fr) (H : HJ op ar pl pa a m.toInt p 0) (e : m'.toInt = m.toInt + 1) (hx : 0 ≤ x.toInt ∧ x.toInt ≤ 8) : HJ (upd op m.toNatClampNeg x) (upd ar m.toNatClampNeg y) pl pa a m'.toInt p 1 := by
  obtain ⟨⟨h, H⟩, S⟩ := H
  have b := xj_mf X
  have c := g5_clamp m
  have h3 := H.2.2.1
  have h2 := H.2.1
  have hm : h m.toNatClampNeg = biP pl p.toNat + 0 := h2
  have hm3 : h m.toNatClampNeg ≤ m.toNatClampNeg := h3
  obtain ⟨h', H'⟩ := hg_emit (M := m.toNatClampNeg) (v := h m.toNatClampNeg + 1) (d' := 1) (x := x) (y := y) H (by omega) (by omega) (by omega) (xj_hp X) (by omega) (by omega) (Or.inl ⟨hx.1, hx.2, rfl⟩)
  rw [← e] at H'
  exact ⟨⟨h', H'⟩, S⟩
/-- an operator of the pile becomes a step -/
theorem hj_popE {go ga op ar pl pa : Nat → Int32} {a fr : Int} {m m' p p' y : Int32} (X : XJ go ga op ar pl pa a m.toInt p.toInt fr) (H : HJ op ar pl pa a m.toInt p.toInt 1) (h : 0 < p.toInt) (e : p'.toInt = p.toInt - 1) (em : m'.toInt = m.toInt + 1) (hx : (pl p'.toNatClampNeg).toInt < 28) : HJ (upd op m.toNatClampNeg (pl p'.toNatClampNeg)) (upd ar m.toNatClampNeg y) pl pa a m'.toInt p'.toInt 1 := by
  obtain ⟨⟨hh, H⟩, S⟩ := H
  have b := xj_mf X
  have c := g5_clamp m
  have d := g5_clamp p'
  have r := xj_at X h e
  have hp := xj_hp X
  have x3 : 0 ≤ p.toInt := X.2.2.1
  have nj : ¬ isJ (pl p'.toNatClampNeg) := fun q => by unfold isJ at q; omega
  have S' : SQ pl p'.toInt := fun i j h1 h2 => S i j h1 (by omega)
  have ep : ((p'.toNatClampNeg : Nat) : Int) = p'.toInt := by omega
  by_cases q : (pl p'.toNatClampNeg).toInt < 27
  · have H1 := hg_pop (P := p'.toNatClampNeg) (d' := 2) H (by omega) (by rw [biP_S, if_pos q]) nj
    rw [ep] at H1
    have hm : hh m.toNatClampNeg = biP pl p'.toNatClampNeg + 2 := H1.2.1
    have hm3 : hh m.toNatClampNeg ≤ m.toNatClampNeg := H1.2.2.1
    obtain ⟨h', H'⟩ := hg_emit (M := m.toNatClampNeg) (v := biP pl p'.toNatClampNeg + 1) (d' := 1) (x := pl p'.toNatClampNeg) (y := y) H1 (by omega) (by omega) (by omega) (fun i hi => hp i (by omega)) (by omega) rfl (Or.inr (Or.inl ⟨by omega, by omega, by omega, by omega⟩))
    rw [← em] at H'
    exact ⟨⟨h', H'⟩, S'⟩
  · have H1 := hg_pop (P := p'.toNatClampNeg) (d' := 1) H (by omega) (by rw [biP_S, if_neg q]) nj
    rw [ep] at H1
    have hm : hh m.toNatClampNeg = biP pl p'.toNatClampNeg + 1 := H1.2.1
    have hm3 : hh m.toNatClampNeg ≤ m.toNatClampNeg := H1.2.2.1
    obtain ⟨h', H'⟩ := hg_emit (M := m.toNatClampNeg) (v := biP pl p'.toNatClampNeg + 1) (d' := 1) (x := pl p'.toNatClampNeg) (y := y) H1 (by omega) (by omega) (by omega) (fun i hi => hp i (by omega)) (by omega) rfl (Or.inr (Or.inr (Or.inl ⟨by omega, by omega, by omega⟩)))
    rw [← em] at H'
    exact ⟨⟨h', H'⟩, S'⟩
theorem hj_popJ {go ga op ar pl pa : Nat → Int32} {a fr : Int} {m p p' : Int32} (X : XJ go ga op ar pl pa a m.toInt p.toInt fr) (H : HJ op ar pl pa a m.toInt p.toInt 1) (h : 0 < p.toInt) (e : p'.toInt = p.toInt - 1) (j : isJ (pl p'.toNatClampNeg)) : HJ op (upd ar (pa p'.toNatClampNeg).toNatClampNeg m) pl pa a m.toInt p'.toInt 1 := by
  obtain ⟨⟨hh, H⟩, S⟩ := H
  have d := g5_clamp p'
  have c := g5_clamp (pa p'.toNatClampNeg)
  have w := (X.2.2.2.2.2.2 p'.toNatClampNeg (by omega)).2.2 j
  have x0 := X.1
  have H1 := hg_res (P := p'.toNatClampNeg) (Q := (pa p'.toNatClampNeg).toNatClampNeg) (y := m) H (by omega) j (by omega) (by omega) rfl
  rw [show ((p'.toNatClampNeg : Nat) : Int) = p'.toInt by omega] at H1
  exact ⟨⟨hh, H1⟩, fun i j h1 h2 => S i j h1 (by omega)⟩
/-- a bracket closed -/
theorem hj_popB {op ar pl pa : Nat → Int32} {a m : Int} {p p' : Int32} {d : Nat} (H : HJ op ar pl pa a m p.toInt d) (h : 0 < p.toInt) (e : p'.toInt = p.toInt - 1) (x : 30 ≤ (pl p'.toNatClampNeg).toInt) : HJ op ar pl pa a m p'.toInt d := by
  obtain ⟨⟨hh, H⟩, S⟩ := H
  have c := g5_clamp p'
  have H1 := hg_pop (P := p'.toNatClampNeg) (d' := d) H (by omega) (by rw [biP_S, if_neg (by omega), Nat.add_zero]) (fun q => by unfold isJ at q; omega)
  rw [show ((p'.toNatClampNeg : Nat) : Int) = p'.toInt by omega] at H1
  exact ⟨⟨hh, H1⟩, fun i j h1 h2 => S i j h1 (by omega)⟩
theorem sq_push {pl : Nat → Int32} {p : Int} {P : Nat} {x : Int32} (S : SQ pl p) (hP : (P : Int) = p) (hx : x.toInt ≤ 23 ∨ x.toInt = 31 ∨ no31 pl p) : SQ (upd pl P x) (p + 1) := by
  intro i j h1 h2 h3
  rw [upd_ne (by omega)] at h3
  by_cases q : j = P
  · subst q
    rw [upd_eq]
    rcases hx with z | z | z
    · exact Or.inl z
    · exact Or.inr z
    · exact absurd h3 (z i (by omega))
  · rw [upd_ne q]; exact S i j h1 (by omega) h3
theorem no31_le {pl : Nat → Int32} {p q : Int} (n : no31 pl p) (h : q ≤ p) : no31 pl q := fun i hi => n i (by omega)
theorem no31_0 {pl : Nat → Int32} {p : Int} (h : p = 0) : no31 pl p := fun i hi => absurd hi (by omega)
theorem no31_push {pl : Nat → Int32} {p p' x : Int32} (n : no31 pl p.toInt) (e : p'.toInt = p.toInt + 1) (h0 : 0 ≤ p.toInt) (hx : x.toInt ≠ 31) : no31 (upd pl p.toNatClampNeg x) p'.toInt := by
  have c := g5_clamp p
  intro i hi
  by_cases q : i = p.toNatClampNeg
  · subst q; rw [upd_eq]; exact hx
  · rw [upd_ne q]; exact n i (by omega)
/-- a binary operator on the pile -/
theorem hj_push2 {op ar pl pa : Nat → Int32} {a m : Int} {p p' x y : Int32} (H : HJ op ar pl pa a m p.toInt 1) (h0 : 0 ≤ p.toInt) (e : p'.toInt = p.toInt + 1) (hx : 20 ≤ x.toInt ∧ x.toInt ≤ 26) (hn : x.toInt ≤ 23 ∨ no31 pl p.toInt) : HJ op ar (upd pl p.toNatClampNeg x) (upd pa p.toNatClampNeg y) a m p'.toInt 0 := by
  obtain ⟨⟨hh, H⟩, S⟩ := H
  have c := g5_clamp p
  have H1 := hg_push (P := p.toNatClampNeg) (d' := 0) (x := x) (y := y) H (by omega) (by rw [biP_push, if_pos (by omega)]) (fun q => by unfold isJ at q; omega)
  have S1 := sq_push (P := p.toNatClampNeg) (x := x) S (by omega) (hn.elim Or.inl (fun z => Or.inr (Or.inr z)))
  rw [← e] at H1 S1
  exact ⟨⟨hh, H1⟩, S1⟩
/-- a bracket, or a NOT, on the pile -/
theorem hj_push0 {op ar pl pa : Nat → Int32} {a m : Int} {p p' x y : Int32} {d : Nat} (H : HJ op ar pl pa a m p.toInt d) (h0 : 0 ≤ p.toInt) (e : p'.toInt = p.toInt + 1) (hx : x.toInt = 27 ∨ 30 ≤ x.toInt) (hn : x.toInt = 31 ∨ no31 pl p.toInt) : HJ op ar (upd pl p.toNatClampNeg x) (upd pa p.toNatClampNeg y) a m p'.toInt d := by
  obtain ⟨⟨hh, H⟩, S⟩ := H
  have c := g5_clamp p
  have H1 := hg_push (P := p.toNatClampNeg) (d' := d) (x := x) (y := y) H (by omega) (by rw [biP_push, if_neg (by omega)]; rfl) (fun q => by unfold isJ at q; omega)
  have S1 := sq_push (P := p.toNatClampNeg) (x := x) S (by omega) (Or.inr hn)
  rw [← e] at H1 S1
  exact ⟨⟨hh, H1⟩, S1⟩
/-- an AND, an OR -/
theorem hj_pushJ {go ga op ar pl pa : Nat → Int32} {a fr : Int} {m m' p p' x z : Int32} (X : XJ go ga op ar pl pa a m.toInt p.toInt fr) (H : HJ op ar pl pa a m.toInt p.toInt 1) (e : p'.toInt = p.toInt + 1) (em : m'.toInt = m.toInt + 1) (hx : isJ x) (hn : no31 pl p.toInt) : HJ (upd op m.toNatClampNeg x) (upd ar m.toNatClampNeg z) (upd pl p.toNatClampNeg x) (upd pa p.toNatClampNeg m) a m'.toInt p'.toInt 0 := by
  obtain ⟨⟨hh, H⟩, S⟩ := H
  have b := xj_mf X
  have x3 : 0 ≤ p.toInt := X.2.2.1
  have c := g5_clamp p
  have d := g5_clamp m
  have hx2 := hx
  unfold isJ at hx2
  have H1 := hg_push (P := p.toNatClampNeg) (d' := 1) (x := x) (y := m) H (by omega) (by rw [biP_push, if_neg (by omega)]) (fun _ => ⟨rfl, rfl⟩)
  have S1 := sq_push (P := p.toNatClampNeg) (x := x) S (by omega) (Or.inr (Or.inr hn))
  rw [← e] at H1 S1
  have hp : ∀ i : Nat, (i : Int) < p'.toInt → isJ (upd pl p.toNatClampNeg x i) → 0 ≤ (upd pa p.toNatClampNeg m i).toInt ∧ (upd pa p.toNatClampNeg m i).toInt ≤ m.toInt := by
    intro i hi j
    by_cases q : i = p.toNatClampNeg
    · subst q; rw [upd_eq]; omega
    · rw [upd_ne q] at j ⊢; exact xj_hp X i (by omega) j
  have hm : hh m.toNatClampNeg = biP (upd pl p.toNatClampNeg x) p'.toInt.toNat + 1 := H1.2.1
  have hm3 : hh m.toNatClampNeg ≤ m.toNatClampNeg := H1.2.2.1
  obtain ⟨h', H'⟩ := hg_emit (M := m.toNatClampNeg) (v := biP (upd pl p.toNatClampNeg x) p'.toInt.toNat) (d' := 0) (x := x) (y := z) H1 (by omega) (by omega) (by omega) hp (by omega) rfl (Or.inr (Or.inr (Or.inr ⟨hx, by omega, by omega, p.toNatClampNeg, by omega, by rw [upd_eq]; exact hx, by rw [upd_eq]; omega⟩)))
  rw [← em] at H'
  exact ⟨⟨h', H'⟩, S1⟩
/-! the innermost bracket -/
def innP (pl : Nat → Int32) (k r : Int) : Prop := (r = -1 ∧ ∀ i : Nat, (i : Int) < k → (pl i).toInt < 30) ∨ (30 ≤ r ∧ ∃ i : Nat, (i : Int) < k ∧ (pl i).toInt = r ∧ ∀ j : Nat, i < j → (j : Int) < k → (pl j).toInt < 30)
theorem inn_0 {pl : Nat → Int32} {k r : Int} (hk : k = 0) (hr : r = -1) : innP pl k r := Or.inl ⟨hr, fun i h => absurd h (by omega)⟩
theorem inn_yes {pl : Nat → Int32} {k k' : Int32} (h0 : 0 ≤ k.toInt) (e : k'.toInt = k.toInt + 1) (hx : 30 ≤ (pl k.toNatClampNeg).toInt) : innP pl k'.toInt (pl k.toNatClampNeg).toInt := by
  have c := g5_clamp k
  exact Or.inr ⟨hx, k.toNatClampNeg, by omega, rfl, fun j h1 h2 => absurd h2 (by omega)⟩
theorem inn_no {pl : Nat → Int32} {k k' : Int32} {r : Int} (I : innP pl k.toInt r) (h0 : 0 ≤ k.toInt) (e : k'.toInt = k.toInt + 1) (hx : (pl k.toNatClampNeg).toInt < 30) : innP pl k'.toInt r := by
  have c := g5_clamp k
  rcases I with ⟨a, b⟩ | ⟨a, i, b1, b2, b3⟩
  · refine Or.inl ⟨a, fun i hi => ?_⟩
    by_cases q : i = k.toNatClampNeg
    · subst q; exact hx
    · exact b i (by omega)
  · refine Or.inr ⟨a, i, by omega, b2, fun j h1 h2 => ?_⟩
    by_cases q : j = k.toNatClampNeg
    · subst q; exact hx
    · exact b3 j h1 (by omega)
theorem inn_no31 {op ar pl pa : Nat → Int32} {a m p r : Int} {d : Nat} (I : innP pl p r) (H : HJ op ar pl pa a m p d) (hr : ¬ r = 31) : no31 pl p := by
  intro i hi q
  rcases I with ⟨z, b⟩ | ⟨z, k, b1, b2, b3⟩
  · have w := b i hi; omega
  · by_cases u : i < k
    · have w := H.2 i k u b1 q; omega
    · by_cases v : i = k
      · subst v; omega
      · have w := b3 i (by omega) hi; omega
theorem inn_no30 {pl : Nat → Int32} {p r : Int} (I : innP pl p r) (hr : r = -1) : no30 pl p := by
  rcases I with ⟨_, b⟩ | ⟨z, _⟩
  · exact b
  · omega
/-- what settling leaves -/
def S1 (pl : Nat → Int32) (p p' : Int) : Prop := ∀ i : Nat, (i : Int) < p → 30 ≤ (pl i).toInt → (i : Int) < p'
def S2 (pl : Nat → Int32) (p : Int) (l : Int) : Prop := p = 0 ∨ bnd (pl (p - 1).toNat).toInt < l
theorem s1_0 {pl : Nat → Int32} {p : Int} : S1 pl p p := fun _ h _ => h
theorem s1_S {pl : Nat → Int32} {p0 : Int} {p p' : Int32} (h : S1 pl p0 p.toInt) (h0 : 0 < p.toInt) (e : p'.toInt = p.toInt - 1) (x : (pl p'.toNatClampNeg).toInt < 30) : S1 pl p0 p'.toInt := by
  have c := g5_clamp p'
  intro i hi h30
  have w := h i hi h30
  by_cases q : i = p'.toNatClampNeg
  · subst q; omega
  · omega
theorem s2_lt {pl : Nat → Int32} {p p' : Int32} {l : Int} (h0 : 0 < p.toInt) (e : p'.toInt = p.toInt - 1) (x : bnd (pl p'.toNatClampNeg).toInt < l) : S2 pl p.toInt l := by
  refine Or.inr ?_
  rw [show (p.toInt - 1).toNat = p'.toNatClampNeg by have c := g5_clamp p'; omega]; exact x
/-- a square bracket is on top when the sum within it is settled -/
theorem top_sq {op ar pl pa : Nat → Int32} {a m r : Int} {d : Nat} {p q q' : Int32} (I : innP pl p.toInt r) (hr : r = 31) (H : HJ op ar pl pa a m q.toInt d) {l : Int} (hl : l ≤ 5) (s1 : S1 pl p.toInt q.toInt) (s2 : S2 pl q.toInt l) : 0 < q.toInt ∧ (q'.toInt = q.toInt - 1 → 30 ≤ (pl q'.toNatClampNeg).toInt) := by
  rcases I with ⟨z, _⟩ | ⟨z, k, b1, b2, b3⟩
  · omega
  · have w := s1 k b1 (by omega)
    refine ⟨by omega, fun e => ?_⟩
    have c := g5_clamp q'
    rcases s2 with y | y
    · omega
    · rw [show (q.toInt - 1).toNat = q'.toNatClampNeg by omega] at y
      have y5 := bnd_lt5 (Int.lt_of_lt_of_le y hl)
      by_cases v : k = q'.toNatClampNeg
      · subst v; omega
      · have u := H.2 k q'.toNatClampNeg (by omega) (by omega) (by omega)
        omega
theorem top_rd {pl : Nat → Int32} {r : Int} {p q q' : Int32} (I : innP pl p.toInt r) (hr : ¬ r = -1) {l : Int} (hl : l ≤ 1) (s1 : S1 pl p.toInt q.toInt) (s2 : S2 pl q.toInt l) : 0 < q.toInt ∧ (q'.toInt = q.toInt - 1 → 30 ≤ (pl q'.toNatClampNeg).toInt) := by
  rcases I with ⟨z, _⟩ | ⟨z, k, b1, b2, b3⟩
  · omega
  · have w := s1 k b1 (by omega)
    refine ⟨by omega, fun e => ?_⟩
    have c := g5_clamp q'
    rcases s2 with y | y
    · omega
    · rw [show (q.toInt - 1).toNat = q'.toNatClampNeg by omega] at y
      exact bnd_lt1 (Int.lt_of_lt_of_le y hl)
theorem end_0 {pl : Nat → Int32} {p q l : Int} (n : no30 pl p) (h : q ≤ p) (h0 : 0 ≤ q) (hl : l ≤ 1) (s2 : S2 pl q l) : q = 0 := by
  rcases s2 with y | y
  · exact y
  · have z := bnd_lt1 (Int.lt_of_lt_of_le y hl)
    by_cases w : q = 0
    · exact w
    · have u := n (q - 1).toNat (by omega); omega
/-! a turn of the reader -/
def dT (t : Int) : Nat := if t = 0 ∨ t = 1 then 0 else 1
def TJ (op ar pl pa : Nat → Int32) (a m p t : Int) : Prop := HJ op ar pl pa a m p (dT t) ∧ ((t = 0 ∨ t = 2) → no31 pl p) ∧ (t = 4 → no30 pl p)
theorem tj_d0 {op ar pl pa : Nat → Int32} {a m p t : Int} (T : TJ op ar pl pa a m p t) (h : t = 0 ∨ t = 1) : HJ op ar pl pa a m p 0 := by
  have z := T.1
  unfold dT at z
  rw [if_pos h] at z; exact z
theorem tj_d1 {op ar pl pa : Nat → Int32} {a m p t : Int} (T : TJ op ar pl pa a m p t) (h : 2 ≤ t) : HJ op ar pl pa a m p 1 := by
  have z := T.1
  unfold dT at z
  rw [if_neg (by omega)] at z; exact z
theorem tj_0 {op ar pl pa : Nat → Int32} {a m p t : Int} (H : HJ op ar pl pa a m p 0) (ht : t = 0) (n : no31 pl p) : TJ op ar pl pa a m p t := by
  subst ht
  exact ⟨H, fun _ => n, fun h => absurd h (by decide)⟩
theorem tj_1 {op ar pl pa : Nat → Int32} {a m p t : Int} (H : HJ op ar pl pa a m p 0) (ht : t = 1) : TJ op ar pl pa a m p t := by
  subst ht
  exact ⟨H, fun h => absurd h (by decide), fun h => absurd h (by decide)⟩
theorem tj_2 {op ar pl pa : Nat → Int32} {a m p t : Int} (H : HJ op ar pl pa a m p 1) (ht : t = 2) (n : no31 pl p) : TJ op ar pl pa a m p t := by
  subst ht
  exact ⟨H, fun _ => n, fun h => absurd h (by decide)⟩
theorem tj_3 {op ar pl pa : Nat → Int32} {a m p t : Int} (H : HJ op ar pl pa a m p 1) (ht : t = 3) : TJ op ar pl pa a m p t := by
  subst ht
  exact ⟨H, fun h => absurd h (by decide), fun h => absurd h (by decide)⟩
theorem tj_4 {op ar pl pa : Nat → Int32} {a m p t : Int} (H : HJ op ar pl pa a m p 1) (ht : t = 4) (n : no30 pl p) : TJ op ar pl pa a m p t := by
  subst ht
  exact ⟨H, fun h => absurd h (by decide), fun _ => n⟩
/-! an expression that was read -/
def stN (op ar : Nat → Int32) (h : Nat → Nat) (k : Nat) (b : Int) : Prop := h k ≤ k ∧ ((0 ≤ (op k).toInt ∧ (op k).toInt ≤ 8 ∧ h (k + 1) = h k + 1) ∨ (20 ≤ (op k).toInt ∧ (op k).toInt ≤ 26 ∧ 2 ≤ h k ∧ h (k + 1) + 1 = h k) ∨ ((op k).toInt = 27 ∧ 1 ≤ h k ∧ h (k + 1) = h k) ∨ (((op k).toInt = 28 ∨ (op k).toInt = 29) ∧ 1 ≤ h k ∧ h (k + 1) + 1 = h k ∧ (k : Int) < (ar k).toInt ∧ (ar k).toInt ≤ 400 ∧ ((ar k).toInt < b → h (ar k).toInt.toNat = h k)))
def cdN (op ar : Nat → Int32) (a b : Int) : Prop := ∃ h : Nat → Nat, h a.toNat = 0 ∧ ∀ k : Nat, a ≤ (k : Int) → (k : Int) < b → stN op ar h k b
theorem cdN_of {op ar pl pa : Nat → Int32} {a m p : Int} {d : Nat} (H : HJ op ar pl pa a m p d) (hp : p = 0) (hm : m ≤ 400) : cdN op ar a m := by
  obtain ⟨⟨h, h1, h2, h3, h4, h5⟩, _⟩ := H
  refine ⟨h, h1, fun k hk1 hk2 => ?_⟩
  have z := h4 k hk1 hk2
  unfold hSt at z
  unfold stN
  obtain ⟨z1, z2⟩ := z
  refine ⟨z1, ?_⟩
  rcases z2 with s | s | s | ⟨s1, s2, s3, s4⟩
  · exact Or.inl s
  · exact Or.inr (Or.inl s)
  · exact Or.inr (Or.inr (Or.inl s))
  · refine Or.inr (Or.inr (Or.inr ⟨s1, s2, s3, ?_⟩))
    rcases s4 with ⟨t1, t2, t3⟩ | ⟨i, i1, _⟩
    · exact ⟨t1, by omega, fun _ => t3⟩
    · omega
theorem cdN_empty {op ar : Nat → Int32} {a : Int} : cdN op ar a a := ⟨fun _ => 0, rfl, fun k h1 h2 => absurd h2 (by omega)⟩
theorem cdN_congr {op ar op' ar' : Nat → Int32} {a b : Int} (C : cdN op ar a b) (e : ∀ k : Nat, (k : Int) < b → op' k = op k ∧ ar' k = ar k) : cdN op' ar' a b := by
  obtain ⟨h, h1, h2⟩ := C
  refine ⟨h, h1, fun k hk1 hk2 => ?_⟩
  have z := h2 k hk1 hk2
  unfold stN at z ⊢
  rw [(e k hk2).1, (e k hk2).2]; exact z
def KP (op ar op' ar' : Nat → Int32) (m : Int) : Prop := ∀ k : Nat, (k : Int) < m → op' k = op k ∧ ar' k = ar k
theorem kp_rf {op ar : Nat → Int32} {m : Int} : KP op ar op ar m := fun _ _ => ⟨rfl, rfl⟩
theorem kp_tr {a b c d e f : Nat → Int32} {m n : Int} (h : KP a b c d m) (g : KP c d e f n) (q : m ≤ n) : KP a b e f m := fun k hk => ⟨(g k (by omega)).1.trans (h k hk).1, (g k (by omega)).2.trans (h k hk).2⟩
theorem xj_kp {go ga op ar pl pa : Nat → Int32} {a m p fr : Int} (X : XJ go ga op ar pl pa a m p fr) : KP go ga op ar a := X.2.2.2.2.2.1
/-! clauses -/
def clN (cl op ar : Nat → Int32) (k : Nat) (m : Int) : Prop := (0 ≤ (cl k).toInt ∧ (cl k).toInt ≤ 3) ∧ (0 ≤ (cl (k + 3)).toInt ∧ (cl (k + 3)).toInt ≤ m) ∧ (0 ≤ (cl (k + 4)).toInt ∧ (cl (k + 4)).toInt ≤ m) ∧ (0 ≤ (cl (k + 5)).toInt ∧ (cl (k + 5)).toInt ≤ m) ∧ (0 ≤ (cl (k + 6)).toInt ∧ (cl (k + 6)).toInt ≤ m) ∧ cdN op ar (cl (k + 5)).toInt (cl (k + 6)).toInt ∧ ((cl k).toInt < 2 → cdN op ar (cl (k + 3)).toInt (cl (k + 4)).toInt)
def LWJ (cl op ar : Nat → Int32) (n m : Int) : Prop := ∀ c : Nat, (c : Int) < n → clN cl op ar (8 * c) m
theorem clN_congr {cl op ar cl' op' ar' : Nat → Int32} {k : Nat} {m m' : Int} (C : clN cl op ar k m) (e : ∀ j : Nat, k ≤ j → j < k + 8 → cl' j = cl j) (g : KP op ar op' ar' m) (h : m ≤ m') : clN cl' op' ar' k m' := by
  unfold clN at C ⊢
  rw [e k (by omega) (by omega), e (k + 3) (by omega) (by omega), e (k + 4) (by omega) (by omega), e (k + 5) (by omega) (by omega), e (k + 6) (by omega) (by omega)]
  obtain ⟨c0, c3, c4, c5, c6, d1, d2⟩ := C
  exact ⟨c0, by omega, by omega, by omega, by omega, cdN_congr d1 (fun j hj => g j (by omega)), fun y => cdN_congr (d2 y) (fun j hj => g j (by omega))⟩
theorem lwj_S {cl op ar cl' op' ar' : Nat → Int32} {n n' m m' : Int} (L : LWJ cl op ar n m) (e : ∀ j : Nat, (j : Int) < 8 * n → cl' j = cl j) (g : KP op ar op' ar' m) (h : m ≤ m') (hn : n' = n + 1) (h0 : 0 ≤ n) (C : clN cl' op' ar' (8 * n.toNat) m') : LWJ cl' op' ar' n' m' := by
  intro c hc
  by_cases q : c = n.toNat
  · subst q; exact C
  · exact clN_congr (L c (by omega)) (fun j h1 h2 => e j (by omega)) g h
theorem cl_keep {f g : Nat → Int32} {n : Int} {x v : Int32} (e : ∀ j : Nat, (j : Int) < n → g j = f j) (h : n ≤ x.toInt) : ∀ j : Nat, (j : Int) < n → upd g x.toNatClampNeg v j = f j := by
  intro j hj
  have c := g5_clamp x
  rw [upd_ne (by omega)]; exact e j hj
theorem lwj_new {cl0 cl op0 ar0 op2 ar2 : Nat → Int32} {n n' i0 i3 i4 i5 i6 hd m0 m1 m2 : Int32} (L : LWJ cl0 op0 ar0 n.toInt m0.toInt) (e : ∀ j : Nat, (j : Int) < 8 * n.toInt → cl j = cl0 j) (g : KP op0 ar0 op2 ar2 m0.toInt) (h0 : 0 ≤ n.toInt) (hn : n'.toInt = n.toInt + 1) (e0 : i0.toInt = 8 * n.toInt) (e3 : i3.toInt = i0.toInt + 3) (e4 : i4.toInt = i0.toInt + 4) (e5 : i5.toInt = i0.toInt + 5) (e6 : i6.toInt = i0.toInt + 6) (q0 : 0 ≤ m0.toInt) (q1 : m0.toInt ≤ m1.toInt) (q2 : m1.toInt ≤ m2.toInt) (hh : 0 ≤ hd.toInt ∧ hd.toInt ≤ 3) (D1 : hd.toInt < 2 → cdN op2 ar2 m0.toInt m1.toInt) (D2 : cdN op2 ar2 m1.toInt m2.toInt) : LWJ (upd (upd (upd (upd (upd cl i0.toNatClampNeg hd) i3.toNatClampNeg m0) i4.toNatClampNeg m1) i5.toNatClampNeg m1) i6.toNatClampNeg m2) op2 ar2 n'.toInt m2.toInt := by
  have c0 := g5_clamp i0
  have c3 := g5_clamp i3
  have c4 := g5_clamp i4
  have c5 := g5_clamp i5
  have c6 := g5_clamp i6
  refine lwj_S L (fun j hj => ?_) g (by omega) hn h0 ?_
  · rw [upd_ne (by omega), upd_ne (by omega), upd_ne (by omega), upd_ne (by omega), upd_ne (by omega)]; exact e j hj
  · have k0 : 8 * n.toInt.toNat = i0.toNatClampNeg := by omega
    have f0 : upd (upd (upd (upd (upd cl i0.toNatClampNeg hd) i3.toNatClampNeg m0) i4.toNatClampNeg m1) i5.toNatClampNeg m1) i6.toNatClampNeg m2 i0.toNatClampNeg = hd := by
      rw [upd_ne (by omega), upd_ne (by omega), upd_ne (by omega), upd_ne (by omega), upd_eq]
    have f3 : upd (upd (upd (upd (upd cl i0.toNatClampNeg hd) i3.toNatClampNeg m0) i4.toNatClampNeg m1) i5.toNatClampNeg m1) i6.toNatClampNeg m2 (i0.toNatClampNeg + 3) = m0 := by
      rw [show i0.toNatClampNeg + 3 = i3.toNatClampNeg by omega, upd_ne (by omega), upd_ne (by omega), upd_ne (by omega), upd_eq]
    have f4 : upd (upd (upd (upd (upd cl i0.toNatClampNeg hd) i3.toNatClampNeg m0) i4.toNatClampNeg m1) i5.toNatClampNeg m1) i6.toNatClampNeg m2 (i0.toNatClampNeg + 4) = m1 := by
      rw [show i0.toNatClampNeg + 4 = i4.toNatClampNeg by omega, upd_ne (by omega), upd_ne (by omega), upd_eq]
    have f5 : upd (upd (upd (upd (upd cl i0.toNatClampNeg hd) i3.toNatClampNeg m0) i4.toNatClampNeg m1) i5.toNatClampNeg m1) i6.toNatClampNeg m2 (i0.toNatClampNeg + 5) = m1 := by
      rw [show i0.toNatClampNeg + 5 = i5.toNatClampNeg by omega, upd_ne (by omega), upd_eq]
    have f6 : upd (upd (upd (upd (upd cl i0.toNatClampNeg hd) i3.toNatClampNeg m0) i4.toNatClampNeg m1) i5.toNatClampNeg m1) i6.toNatClampNeg m2 (i0.toNatClampNeg + 6) = m2 := by
      rw [show i0.toNatClampNeg + 6 = i6.toNatClampNeg by omega, upd_eq]
    rw [k0]
    unfold clN
    rw [f0, f3, f4, f5, f6]
    exact ⟨hh, ⟨by omega, by omega⟩, ⟨by omega, by omega⟩, ⟨by omega, by omega⟩, ⟨by omega, by omega⟩, D2, D1⟩
/-! a law that was read stands in the row -/
theorem cdOK_of {op ar f : Nat → Int32} {a b : Int} {B : Nat} {m : Int} (C : cdN op ar a b) (hb : b ≤ m) (e : ∀ j : Nat, (j : Int) < m → f (B + 2 * j) = op j ∧ f (B + 2 * j + 1) = ar j) : cdOK f B a b := by
  obtain ⟨h, h1, h2⟩ := C
  refine ⟨h, h1, fun k hk1 hk2 => ?_⟩
  have z := h2 k hk1 hk2
  have w := e k (by omega)
  unfold stN at z
  unfold stOK
  rw [w.1, w.2]; exact z
theorem mi_law {f f1 f2 f3 cl op ar : Nat → Int32} {aw nc co k1 k2 v x1 : Int32} (h : MI f) (hn : (f 2).toInt < 6) (ha : aw.toInt = 340 + 900 * (f 2).toInt) (hx : x1.toInt = aw.toInt + 1) (e1 : f1 = upd f x1.toNatClampNeg nc) (hnc : 0 ≤ nc.toInt ∧ nc.toInt ≤ 12) (hco : 0 ≤ co.toInt ∧ co.toInt ≤ 400) (e2 : ∀ j : Nat, (j : Int) < k1.toInt → f2 (aw.toNatClampNeg + 2 + j) = cl j) (e2' : ∀ j : Nat, (j < aw.toNatClampNeg + 2 ∨ aw.toNatClampNeg + 98 ≤ j) → f2 j = f1 j) (hk1 : k1.toInt = 8 * nc.toInt) (e3 : ∀ j : Nat, (j : Int) < k2.toInt → f3 (aw.toNatClampNeg + 98 + 2 * j) = op j ∧ f3 (aw.toNatClampNeg + 98 + 2 * j + 1) = ar j) (e3' : ∀ j : Nat, (j < aw.toNatClampNeg + 98 ∨ aw.toNatClampNeg + 900 ≤ j) → f3 j = f2 j) (hk2 : k2.toInt = co.toInt) (L : LWJ cl op ar nc.toInt co.toInt) (hv : v.toInt = (f 2).toInt + 1) : MI (upd f3 2 v) := by
  have c := g5_clamp aw
  have cx := g5_clamp x1
  have h2 := mi_2 h
  have h3 := mi_3 h
  have low : ∀ j : Nat, j ≠ 2 → j < aw.toNatClampNeg → upd f3 2 v j = f j := by
    intro j hj hl
    rw [upd_ne hj, e3' j (by omega), e2' j (by omega), e1, upd_ne (by omega)]
  refine ⟨fun j => ?_, ?_, ?_, fun l hl => ?_⟩
  · by_cases q : j = 2
    · subst q; rw [upd_eq]
      unfold rOK
      refine ⟨?_, ?_, ?_, ?_, ?_, ?_, ?_, ?_, ?_, ?_, ?_, ?_, ?_, ?_, ?_, ?_, ?_, ?_, ?_, ?_, ?_, ?_, ?_⟩ <;> (intros; omega)
    · by_cases q2 : j < 340
      · rw [low j q (by omega)]; exact h.1 j
      · unfold rOK
        refine ⟨?_, ?_, ?_, ?_, ?_, ?_, ?_, ?_, ?_, ?_, ?_, ?_, ?_, ?_, ?_, ?_, ?_, ?_, ?_, ?_, ?_, ?_, ?_⟩ <;> (intros; omega)
  · rw [mSN_congr (low 5 (by omega) (by omega)) (fun j a b => low j (by omega) (by omega)) (by have z := mi_5 h; omega)]; exact h.2.1
  · rw [low 3 (by omega) (by omega), upd_eq]; have z := h.2.2.1; omega
  · rw [upd_eq] at hl
    by_cases q : (l : Int) < (f 2).toInt
    · exact lawOK_congrB (fun j a b => low j (by omega) (by omega)) (h.2.2.2 l q)
    · have el : 340 + 900 * l = aw.toNatClampNeg := by omega
      rw [el]
      have g1 : upd f3 2 v (aw.toNatClampNeg + 1) = nc := by
        rw [upd_ne (by omega), e3' _ (by omega), e2' _ (by omega), e1, show aw.toNatClampNeg + 1 = x1.toNatClampNeg by omega, upd_eq]
      have g2 : ∀ j : Nat, (j : Int) < 8 * nc.toInt → upd f3 2 v (aw.toNatClampNeg + 2 + j) = cl j := by
        intro j hj
        rw [upd_ne (by omega), e3' _ (by omega)]; exact e2 j (by omega)
      have g3 : ∀ j : Nat, (j : Int) < co.toInt → upd f3 2 v (aw.toNatClampNeg + 98 + 2 * j) = op j ∧ upd f3 2 v (aw.toNatClampNeg + 98 + 2 * j + 1) = ar j := by
        intro j hj
        rw [upd_ne (by omega), upd_ne (by omega)]; exact e3 j (by omega)
      unfold lawOK
      rw [g1]
      refine ⟨hnc, fun d hd => ?_⟩
      obtain ⟨d0, d3, d4, d5, d6, dd, de⟩ := L d hd
      have p0 := g2 (8 * d) (by omega)
      have p3 := g2 (8 * d + 3) (by omega)
      have p4 := g2 (8 * d + 4) (by omega)
      have p5 := g2 (8 * d + 5) (by omega)
      have p6 := g2 (8 * d + 6) (by omega)
      rw [← Nat.add_assoc] at p3 p4 p5 p6
      unfold clOK
      rw [p0, p3, p4, p5, p6]
      exact ⟨d0, ⟨by omega, by omega⟩, ⟨by omega, by omega⟩, ⟨by omega, by omega⟩, ⟨by omega, by omega⟩, cdOK_of dd (by omega) g3, fun y => cdOK_of (de y) (by omega) g3⟩
theorem lw_c1 {g cl : Nat → Int32} {a k k' x : Int32} (e : ∀ j : Nat, (j : Int) < k.toInt → g (a.toNatClampNeg + 2 + j) = cl j) (h0 : 0 ≤ k.toInt) (ha : 0 ≤ a.toInt) (hk : k'.toInt = k.toInt + 1) (hx : x.toInt = a.toInt + 2 + k.toInt) : ∀ j : Nat, (j : Int) < k'.toInt → upd g x.toNatClampNeg (cl k.toNatClampNeg) (a.toNatClampNeg + 2 + j) = cl j := by
  intro j hj
  have c := g5_clamp x
  have d := g5_clamp k
  have ca := g5_clamp a
  by_cases q : j = k.toNatClampNeg
  · subst q
    rw [show a.toNatClampNeg + 2 + k.toNatClampNeg = x.toNatClampNeg by omega, upd_eq]
  · rw [upd_ne (by omega)]; exact e j (by omega)
theorem lw_c2 {g f1 : Nat → Int32} {a k x v : Int32} (e : ∀ j : Nat, (j < a.toNatClampNeg + 2 ∨ a.toNatClampNeg + 98 ≤ j) → g j = f1 j) (h0 : 0 ≤ k.toInt ∧ k.toInt < 96) (ha : 0 ≤ a.toInt) (hx : x.toInt = a.toInt + 2 + k.toInt) : ∀ j : Nat, (j < a.toNatClampNeg + 2 ∨ a.toNatClampNeg + 98 ≤ j) → upd g x.toNatClampNeg v j = f1 j := by
  intro j hj
  have c := g5_clamp x
  have ca := g5_clamp a
  rw [upd_ne (by omega)]; exact e j hj
theorem lw_d1 {g op ar : Nat → Int32} {a k k' x y : Int32} (e : ∀ j : Nat, (j : Int) < k.toInt → g (a.toNatClampNeg + 98 + 2 * j) = op j ∧ g (a.toNatClampNeg + 98 + 2 * j + 1) = ar j) (h0 : 0 ≤ k.toInt) (ha : 0 ≤ a.toInt) (hk : k'.toInt = k.toInt + 1) (hx : x.toInt = a.toInt + 98 + 2 * k.toInt) (hy : y.toInt = x.toInt + 1) : ∀ j : Nat, (j : Int) < k'.toInt → upd (upd g x.toNatClampNeg (op k.toNatClampNeg)) y.toNatClampNeg (ar k.toNatClampNeg) (a.toNatClampNeg + 98 + 2 * j) = op j ∧ upd (upd g x.toNatClampNeg (op k.toNatClampNeg)) y.toNatClampNeg (ar k.toNatClampNeg) (a.toNatClampNeg + 98 + 2 * j + 1) = ar j := by
  intro j hj
  have c := g5_clamp x
  have cy := g5_clamp y
  have d := g5_clamp k
  have ca := g5_clamp a
  by_cases q : j = k.toNatClampNeg
  · subst q
    rw [show a.toNatClampNeg + 98 + 2 * k.toNatClampNeg + 1 = y.toNatClampNeg by omega, show a.toNatClampNeg + 98 + 2 * k.toNatClampNeg = x.toNatClampNeg by omega, upd_eq, upd_ne (by omega), upd_eq]
    exact ⟨rfl, rfl⟩
  · rw [upd_ne (by omega), upd_ne (by omega), upd_ne (by omega), upd_ne (by omega)]; exact e j (by omega)
theorem lw_d2 {g f2 : Nat → Int32} {a k x y v w : Int32} (e : ∀ j : Nat, (j < a.toNatClampNeg + 98 ∨ a.toNatClampNeg + 900 ≤ j) → g j = f2 j) (h0 : 0 ≤ k.toInt ∧ k.toInt < 400) (ha : 0 ≤ a.toInt) (hx : x.toInt = a.toInt + 98 + 2 * k.toInt) (hy : y.toInt = x.toInt + 1) : ∀ j : Nat, (j < a.toNatClampNeg + 98 ∨ a.toNatClampNeg + 900 ≤ j) → upd (upd g x.toNatClampNeg v) y.toNatClampNeg w j = f2 j := by
  intro j hj
  have c := g5_clamp x
  have cy := g5_clamp y
  have ca := g5_clamp a
  rw [upd_ne (by omega), upd_ne (by omega)]; exact e j hj
theorem lwj_00 {cl op ar : Nat → Int32} {n m : Int} (h : n = 0) : LWJ cl op ar n m := fun c hc => absurd hc (by omega)
