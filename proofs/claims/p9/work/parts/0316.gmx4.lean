/-! the model's loops -/
def bIff (z : Int) (P : Prop) : Prop := z = 1 ↔ P
theorem bI_y {z : Int} {P : Prop} (h : bIff z P) (q : z = 1) : P := h.mp q
theorem bI_n {z : Int} {P : Prop} (h : bIff z P) (q : z = 0) : ¬ P := fun p => by have := h.mpr p; omega
def exB (f : Nat → Int32) (B w : Nat) (n c : Int) : Prop := ∃ g : Nat, (g : Int) < n ∧ (f (B + w * g)).toInt = c
theorem exB_0 {f : Nat → Int32} {B w : Nat} {c z n : Int} (hz : z = 0) (hn : n = 0) : bIff z (exB f B w n c) := ⟨fun q => by omega, fun ⟨g, a, _⟩ => by omega⟩
theorem exB_k {f : Nat → Int32} {B w : Nat} {c z z' n n' : Int} (h : bIff z (exB f B w n c)) (hz : z = 1) (hz' : z' = 1) (hn : n ≤ n') : bIff z' (exB f B w n' c) := by
  obtain ⟨g, a, b⟩ := h.mp hz
  exact ⟨fun _ => ⟨g, by omega, b⟩, fun _ => hz'⟩
theorem exB_y {f : Nat → Int32} {B w : Nat} {c z' n' : Int} (hz' : z' = 1) (g : Nat) (hg : (g : Int) < n') (e : (f (B + w * g)).toInt = c) : bIff z' (exB f B w n' c) := ⟨fun _ => ⟨g, hg, e⟩, fun _ => hz'⟩
theorem exB_n {f : Nat → Int32} {B w : Nat} {c z z' n n' : Int} (h : bIff z (exB f B w n c)) (hz : z = 0) (hz' : z' = 0) (hn : n' = n + 1) (g : Nat) (hg : (g : Int) = n) (e : (f (B + w * g)).toInt ≠ c) : bIff z' (exB f B w n' c) := by
  refine ⟨fun q => by omega, fun ⟨k, a, b⟩ => ?_⟩
  by_cases q : (k : Int) = n
  · have y : k = g := by omega
    rw [y] at b; exact absurd b e
  · have y := h.mpr ⟨k, by omega, b⟩
    omega
theorem bat_ex {f : Nat → Int32} {c z : Int} (h : bIff z (exB f 110 1 (24 * (f 1).toInt) c)) : bIff z (bAt f c) := by
  refine ⟨fun q => ?_, fun ⟨k, a, b⟩ => ?_⟩
  · obtain ⟨g, a, b⟩ := h.mp q
    exact ⟨g, a, by rw [Nat.one_mul] at b; exact b⟩
  · exact h.mpr ⟨k, a, by rw [Nat.one_mul]; exact b⟩
theorem can_w {f : Nat → Int32} {c : Int} (h : wallAt f c) : ¬ canR f c := fun q => q.1 h.2
theorem can_g {f : Nat → Int32} {c : Int} (h : gAt f c) : ¬ canR f c := fun q => q.2.1 h
theorem can_s {f : Nat → Int32} {c : Int} (h : sAt f c) : ¬ canR f c := fun q => q.2.2 h
theorem can_y {f : Nat → Int32} {c : Int} (h0 : 0 ≤ c) (h1 : ¬ wallAt f c) (h2 : ¬ gAt f c) (h3 : ¬ sAt f c) : canR f c := ⟨fun q => h1 ⟨h0, q⟩, h2, h3⟩
theorem tk_none {f : Nat → Int32} {c : Int} (h1 : ¬ gAt f c) (h2 : ¬ sAt f c) (h3 : ¬ bAt f c) (h4 : (f 6).toInt ≠ c) : ¬ takenR f c := fun q => by
  rcases q with q | q | q | q
  · exact h1 q
  · exact h2 q
  · exact h3 q
  · exact h4 q
theorem mr_body {f g : Nat → Int32} {v : Int32} {n : Int} {k : Int} (h : g = bfill f (110 + 24 * n) (110 + 24 * n + k) (-1)) (hk : k = 24) (h0 : 0 ≤ n) : upd g 1 v = addRow f 1 110 24 n.toNat v (fun _ => -1) := by
  subst h; subst hk
  funext j
  unfold addRow
  by_cases q : j = 1
  · rw [if_pos q, q, upd_eq]
  · rw [if_neg q, upd_ne q]
    unfold bfill
    by_cases r : 110 + 24 * n ≤ (j : Int) ∧ (j : Int) < 110 + 24 * n + 24
    · rw [if_pos r, if_pos (by omega)]
    · rw [if_neg r, if_neg (by omega)]
theorem img_fun {f g r ke : Nat → Int32} {p k : Int32} (ok : okM p) (hk : k.toInt = 5740) (e : ∀ j : Nat, (j : Int) < k.toInt → g (5740 * p.toInt.toNat + j) = r j) (e2 : ∀ j : Nat, ((j : Int) < 5740 * p.toInt ∨ 5740 * p.toInt + 5740 ≤ (j : Int)) → g j = f j) : g = simg f r p := by
  have ok2 := ok
  unfold okM at ok2
  rw [(img_0 (im := f) (f := r) (ke := r) ok).2.1]
  funext j
  unfold imgR
  by_cases q : 5740 * p.toInt.toNat ≤ j ∧ j < 5740 * p.toInt.toNat + 5740
  · rw [if_pos q, ← e (j - 5740 * p.toInt.toNat) (by omega)]
    congr 1; omega
  · rw [if_neg q]; exact e2 j (by omega)
