/-! cells by short names; a slice and what is free of it in one row -/
abbrev oc0 (x0 : Nat) (x1 : Nat) (x2 : Int32) (x3 : Int32) (x4 : Int32) : va_E := .inr (0, [.ref x0, .ref x1, .int x2, .int x3, .int x4])
abbrev oc1 (x0 : Int64) (x1 : Int32) (x2 : Int32) (x3 : Int32) (x4 : Int32) (x5 : Nat) (x6 : Nat) (x7 : Nat) (x8 : Nat) (x9 : Nat) (x10 : Nat) (x11 : Int64) (x12 : Nat) : va_E := .inr (1, [.long x0, .int x1, .int x2, .int x3, .int x4, .ref x5, .ref x6, .ref x7, .ref x8, .ref x9, .ref x10, .long x11, .ref x12])
abbrev oc2 (x0 : Nat) (x1 : Nat) : va_E := .inr (2, [.ref x0, .ref x1])
abbrev oc3 (x0 : Int32) (x1 : Nat) (x2 : Nat) (x3 : Nat) : va_E := .inr (3, [.int x0, .ref x1, .ref x2, .ref x3])
abbrev oc4 (x0 : Nat) (x1 : Nat) (x2 : Nat) (x3 : Nat) (x4 : Int32) (x5 : Int32) (x6 : Int32) (x7 : Int32) : va_E := .inr (4, [.ref x0, .ref x1, .ref x2, .ref x3, .int x4, .int x5, .int x6, .int x7])
abbrev oc5 (x0 : Nat) (x1 : Nat) (x2 : Nat) (x3 : Int32) (x4 : Int32) (x5 : Int32) (x6 : Int32) (x7 : Int32) (x8 : Int32) (x9 : Int32) (x10 : Int32) (x11 : Int32) (x12 : Int32) : va_E := .inr (5, [.ref x0, .ref x1, .ref x2, .int x3, .int x4, .int x5, .int x6, .int x7, .int x8, .int x9, .int x10, .int x11, .int x12])
abbrev oc6 (x0 : Int32) (x1 : Int32) (x2 : Nat) (x3 : Int32) : va_E := .inr (6, [.int x0, .int x1, .ref x2, .int x3])
abbrev oc7 (x0 : Nat) (x1 : Nat) (x2 : Nat) (x3 : Nat) (x4 : Int32) (x5 : Nat) (x6 : Nat) (x7 : Nat) (x8 : Nat) (x9 : Nat) : va_E := .inr (7, [.ref x0, .ref x1, .ref x2, .ref x3, .int x4, .ref x5, .ref x6, .ref x7, .ref x8, .ref x9])
abbrev oc8 (x0 : Nat) (x1 : Nat) (x2 : Nat) : va_E := .inr (8, [.ref x0, .ref x1, .ref x2])
abbrev oc9 (x0 : Nat) (x1 : Nat) (x2 : Nat) (x3 : Nat) : va_E := .inr (9, [.ref x0, .ref x1, .ref x2, .ref x3])
abbrev oc10 (x0 : Nat) (x1 : Nat) (x2 : Nat) : va_E := .inr (10, [.ref x0, .ref x1, .ref x2])
abbrev oc11 (x0 : Nat) (x1 : Nat) (x2 : Nat) (x3 : Nat) (x4 : Nat) (x5 : Nat) (x6 : Nat) (x7 : Nat) (x8 : Nat) (x9 : Nat) (x10 : Int32) (x11 : Int32) (x12 : Int32) (x13 : Nat) (x14 : Int32) (x15 : Nat) (x16 : Int32) : va_E := .inr (11, [.ref x0, .ref x1, .ref x2, .ref x3, .ref x4, .ref x5, .ref x6, .ref x7, .ref x8, .ref x9, .int x10, .int x11, .int x12, .ref x13, .int x14, .ref x15, .int x16])
abbrev oc12 (x0 : Int32) (x1 : Int32) (x2 : Nat) (x3 : Nat) (x4 : Nat) (x5 : Nat) (x6 : Int32) (x7 : Nat) (x8 : Int32) (x9 : Int32) (x10 : Int32) (x11 : Int32) (x12 : Int64) (x13 : Int32) (x14 : Int32) (x15 : Int32) (x16 : Nat) (x17 : Int32) (x18 : Nat) (x19 : Nat) (x20 : Int32) (x21 : Nat) (x22 : Nat) (x23 : Int32) (x24 : Int32) (x25 : Nat) (x26 : Nat) (x27 : Int32) (x28 : Nat) (x29 : Nat) (x30 : Int32) (x31 : Int64) (x32 : Int64) (x33 : Int32) (x34 : Int32) (x35 : Int32) (x36 : Int32) (x37 : Int32) (x38 : Nat) (x39 : Int32) (x40 : Int32) (x41 : Nat) (x42 : Int32) (x43 : Nat) (x44 : Nat) (x45 : Nat) (x46 : Int32) (x47 : Nat) (x48 : Nat) (x49 : Int64) (x50 : Nat) (x51 : Int32) : va_E := .inr (12, [.int x0, .int x1, .ref x2, .ref x3, .ref x4, .ref x5, .int x6, .ref x7, .int x8, .int x9, .int x10, .int x11, .long x12, .int x13, .int x14, .int x15, .ref x16, .int x17, .ref x18, .ref x19, .int x20, .ref x21, .ref x22, .int x23, .int x24, .ref x25, .ref x26, .int x27, .ref x28, .ref x29, .int x30, .long x31, .long x32, .int x33, .int x34, .int x35, .int x36, .int x37, .ref x38, .int x39, .int x40, .ref x41, .int x42, .ref x43, .ref x44, .ref x45, .int x46, .ref x47, .ref x48, .long x49, .ref x50, .int x51])
abbrev arI (G : g5_G) (n : Nat) (f : Nat → Int32) : va_E := .inl (G.2 0, n, .inl f)
abbrev arJ (G : g5_G) (n : Nat) (f : Nat → Int64) : va_E := .inl (G.2 1, n, .inr (.inl f))
abbrev arZ (G : g5_G) (n : Nat) (f : Nat → Int32) : va_E := .inl (G.2 2, n, .inl f)
abbrev arH (G : g5_G) (n : Nat) (f : Nat → Option Nat) : va_E := .inl (G.2 3, n, .inr (.inr (.inr (.inr f))))
abbrev arW (G : g5_G) (n : Nat) (f : Nat → Option Nat) : va_E := .inl (G.2 4, n, .inr (.inr (.inr (.inr f))))
theorem g5_rs {D : va_G} {cl : List vw_C} {A : Nat → Prop} {H : Heap} {P : Prop} (w : va_W) (hP : va_P D cl w H) (hD : va_D A w) (k : va_P D cl w H → va_D A w → P) : P := k hP hD
theorem g5_fm {α β : Type} {g : α → Option β} {l : List α} {w : List β} (h : l.map g = w.map some) : l.filterMap g = w := by
  induction l generalizing w with
  | nil =>
    cases w with
    | nil => rfl
    | cons b w => simp at h
  | cons a l ih =>
    cases w with
    | nil => simp at h
    | cons b w =>
      simp only [List.map_cons, List.cons.injEq] at h
      rw [List.filterMap_cons, h.1]
      exact congrArg (List.cons b) (ih h.2)
theorem g5_sub3 {D : va_G} {cl : List vw_C} {A0 : Nat → Prop} {ws wc : va_W} {H0 H : Heap} {locs : List Loc} (hP : va_P D cl ws H) (hD : va_D A0 ws) (hS : va_S A0 H0 H locs) (hA : ∀ q, H0.size ≤ q → A0 q) (l : List Nat) (hn : va_nd l = true) (hC : l.map (fun i => ws[i]?) = wc.map some) : va_P D cl wc H ∧ va_D A0 wc ∧ (∀ q, va_A wc H.size q → A0 q) := ⟨hP.sub l (g5_fm hC), hD.sub l hn hC, va_free hD hS hA l hC⟩
