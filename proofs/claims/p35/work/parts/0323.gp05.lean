/-! a token as the model sees it: its sort and its worth -/
theorem fnW_some {x : Nat → Int32} {i e : Nat} : ∀ (Ls : List (List Int32)) (k : Nat), fnW x i e k Ls ≠ -1 → ∃ (j : Nat) (w : List Int32), fnW x i e k Ls = ((k + j : Nat) : Int) ∧ Ls[j]? = some w ∧ isWd x i e w = true := by
  intro Ls
  induction Ls with
  | nil => intro k h; exact absurd rfl h
  | cons w Ls ih =>
    intro k h
    by_cases q : isWd x i e w = true
    · exact ⟨0, w, (by show (if isWd x i e w = true then (k : Int) else _) = _; rw [if_pos q]; rfl), rfl, q⟩
    · have e1 : fnW x i e k (w :: Ls) = fnW x i e (k + 1) Ls := by
        show (if isWd x i e w = true then (k : Int) else _) = _
        rw [if_neg q]
      rw [e1] at h ⊢
      obtain ⟨j, v, h1, h2, h3⟩ := ih (k + 1) h
      exact ⟨j + 1, v, by rw [h1]; congr 1; omega, h2, h3⟩
theorem fnW_of {x : Nat → Int32} {i e : Nat} (hie : i ≤ e) : ∀ (Ls : List (List Int32)) (k j : Nat) (w : List Int32), Ls.Nodup → Ls[j]? = some w → isWd x i e w = true → fnW x i e k Ls = ((k + j : Nat) : Int) := by
  intro Ls
  induction Ls with
  | nil => intro k j w _ h; cases h
  | cons v Ls ih =>
    intro k j w hn hj hw
    have hn2 := List.nodup_cons.mp hn
    by_cases q : isWd x i e v = true
    · have e1 : v = w := ((isWd_by hie).mp q).symm.trans ((isWd_by hie).mp hw)
      cases j with
      | zero =>
        show (if isWd x i e v = true then (k : Int) else _) = _
        rw [if_pos q]; rfl
      | succ j =>
        exfalso
        have hj : Ls[j]? = some w := hj
        exact hn2.1 (by rw [e1]; exact List.mem_of_getElem? hj)
    · cases j with
      | zero =>
        have hj : some v = some w := hj
        rw [Option.some.inj hj] at q
        exact absurd hw q
      | succ j =>
        show (if isWd x i e v = true then (k : Int) else _) = _
        rw [if_neg q, ih (k + 1) j w hn2.2 hj hw]
        congr 1; omega
theorem wds_nd : wds.Nodup := by decide +kernel
theorem wdT_iff {x : Nat → Int32} {i e k : Nat} {w : List Int32} (hie : i ≤ e) (hk : wds[k]? = some w) : wdT x i e = (k : Int) ↔ byF x i (e - i) = w := by
  constructor
  · intro h
    have hne : fnW x i e 0 wds ≠ -1 := by
      have h : fnW x i e 0 wds = (k : Int) := h
      omega
    obtain ⟨j, v, h1, h2, h3⟩ := fnW_some wds 0 hne
    have h : fnW x i e 0 wds = (k : Int) := h
    have ej : j = k := by omega
    rw [ej, hk] at h2
    rw [Option.some.inj h2]
    exact (isWd_by hie).mp h3
  · intro h
    have z := fnW_of hie wds 0 k w wds_nd hk ((isWd_by hie).mpr h)
    rw [Nat.zero_add] at z
    exact z
theorem wdT_rg {x : Nat → Int32} {i e : Nat} : -1 ≤ wdT x i e ∧ wdT x i e ≤ 15 := by
  by_cases h : fnW x i e 0 wds = -1
  · have h : wdT x i e = -1 := h
    omega
  · obtain ⟨j, v, h1, h2, h3⟩ := fnW_some wds 0 h
    have h1 : wdT x i e = ((0 + j : Nat) : Int) := h1
    have hl := (List.getElem?_eq_some_iff.mp h2).1
    have hl2 : wds.length = 16 := by decide
    omega
/-- bytes of a text -/
def byOK (x : Nat → Int32) : Prop := ∀ j, 0 ≤ (x j).toInt ∧ (x j).toInt ≤ 255
theorem bLt_iff {c : Int32} : bLt c = true ↔ 97 ≤ c.toInt ∧ c.toInt ≤ 122 := decide_eq_true_iff
theorem bDg_iff {c : Int32} : bDg c = true ↔ 48 ≤ c.toInt ∧ c.toInt ≤ 57 := decide_eq_true_iff
theorem bBl_iff {c : Int32} : bBl c = true ↔ c.toInt = 32 := decide_eq_true_iff
theorem kdT_end {x : Nat → Int32} {n i : Nat} (h : ¬ i < n) : kdT x n i = 302 := by unfold kdT; rw [if_neg h]
theorem kdT_dg {x : Nat → Int32} {n i : Nat} (h : i < n) (k : bDg (x i) = true) : kdT x n i = if (nmb x (enT x n i - i) i 0).toInt ≤ 1000 then 300 else 301 := by unfold kdT; rw [if_pos h, if_pos k]
theorem kdT_lt {x : Nat → Int32} {n i : Nat} (h : i < n) (k : bLt (x i) = true) : kdT x n i = if wdT x i (enT x n i) = -1 then 301 else 256 + wdT x i (enT x n i) := by
  unfold kdT
  rw [if_pos h, if_neg (fun z => by have a := bLt_iff.mp k; have b := bDg_iff.mp z; omega), if_pos k]
theorem kdT_sg {x : Nat → Int32} {n i : Nat} (h : i < n) (k : ¬ bLt (x i) = true) (k2 : ¬ bDg (x i) = true) : kdT x n i = (x i).toInt := by
  unfold kdT; rw [if_pos h, if_neg k2, if_neg k]
/-- what the model knows of a token: sort 0 the end, 1 a word, 2 digits, 3 a sign -/
def soT (x : Nat → Int32) (n i : Nat) : Int := if i < n then (if bLt (x i) = true then 1 else if bDg (x i) = true then 2 else 3) else 0
def dcF (x : Nat → Int32) (i : Nat) : Nat → Int
  | 0 => 0
  | n + 1 => 10 * dcF x i n + ((x (i + n)).toInt - 48)
def woT (x : Nat → Int32) (n i : Nat) (v : Int) : Prop :=
  if soT x n i = 1 then v = (if enT x n i - i ≤ 10 then vlW (byF x i (enT x n i - i)) 0 else -1)
  else if soT x n i = 2 then (dcF x i (enT x n i - i) ≤ 1000 → v = dcF x i (enT x n i - i)) ∧ (1000 < dcF x i (enT x n i - i) → 1000 < v)
  else if soT x n i = 3 then v = (x i).toInt
  else True
theorem so_1 {x : Nat → Int32} {n i : Nat} : soT x n i = 1 ↔ i < n ∧ bLt (x i) = true := by
  unfold soT
  constructor
  · intro h
    split at h
    · rename_i z
      split at h
      · rename_i y; exact ⟨z, y⟩
      · split at h <;> omega
    · omega
  · intro h; rw [if_pos h.1, if_pos h.2]
theorem so_2 {x : Nat → Int32} {n i : Nat} : soT x n i = 2 ↔ i < n ∧ bDg (x i) = true := by
  unfold soT
  constructor
  · intro h
    split at h
    · rename_i z
      split at h
      · omega
      · split at h
        · rename_i y; exact ⟨z, y⟩
        · omega
    · omega
  · intro h
    rw [if_pos h.1, if_neg (fun z => by have a := bLt_iff.mp z; have b := bDg_iff.mp h.2; omega), if_pos h.2]
theorem so_3 {x : Nat → Int32} {n i : Nat} : soT x n i = 3 ↔ i < n ∧ ¬ bLt (x i) = true ∧ ¬ bDg (x i) = true := by
  unfold soT
  constructor
  · intro h
    split at h
    · rename_i z
      split at h
      · omega
      · rename_i y
        split at h
        · omega
        · rename_i w; exact ⟨z, y, w⟩
    · omega
  · intro h; rw [if_pos h.1, if_neg h.2.1, if_neg h.2.2]
theorem so_0 {x : Nat → Int32} {n i : Nat} : soT x n i = 0 ↔ ¬ i < n := by
  unfold soT
  constructor
  · intro h
    split at h
    · split at h
      · omega
      · split at h <;> omega
    · assumption
  · intro h; rw [if_neg h]
/-- the letters of a word -/
theorem word_lt {x : Nat → Int32} {n i : Nat} (h : i < n) (k : bLt (x i) = true) : ∀ j, i ≤ j → j < enT x n i → 97 ≤ (x j).toInt ∧ (x j).toInt ≤ 122 := by
  intro j h1 h2
  have e : enT x n i = runT bLt x n (i + 1) := by unfold enT; rw [if_pos k]
  rw [e] at h2
  by_cases q : j = i
  · rw [q]; exact bLt_iff.mp k
  · exact bLt_iff.mp (runT_all _ (i + 1) rfl j (by omega) h2)
theorem word_dg {x : Nat → Int32} {n i : Nat} (h : i < n) (k : bDg (x i) = true) : ∀ j, i ≤ j → j < enT x n i → 48 ≤ (x j).toInt ∧ (x j).toInt ≤ 57 := by
  intro j h1 h2
  have e : enT x n i = runT bDg x n (i + 1) := by
    unfold enT
    rw [if_neg (fun z => by have a := bLt_iff.mp z; have b := bDg_iff.mp k; omega), if_pos k]
  rw [e] at h2
  by_cases q : j = i
  · rw [q]; exact bDg_iff.mp k
  · exact bDg_iff.mp (runT_all _ (i + 1) rfl j (by omega) h2)
theorem byF_mem {x : Nat → Int32} : ∀ (n i : Nat) (b : Int32), b ∈ byF x i n → ∃ j, i ≤ j ∧ j < i + n ∧ b = x j := by
  intro n
  induction n with
  | zero => intro i b h; cases h
  | succ n ih =>
    intro i b h
    rcases List.mem_cons.mp h with z | z
    · exact ⟨i, Nat.le_refl _, by omega, z⟩
    · obtain ⟨j, h1, h2, h3⟩ := ih (i + 1) b z
      exact ⟨j, by omega, by omega, h3⟩
theorem wds_lt : ∀ w ∈ wds, w.length ≤ 10 ∧ ∀ b ∈ w, 97 ≤ b.toInt ∧ b.toInt ≤ 122 := by decide +kernel
/-- a word is the k-th one: by its kind, by its worth -/
theorem kind_word {x : Nat → Int32} {n i k : Nat} {w : List Int32} {v : Int} (hb : byOK x) (hk : wds[k]? = some w) (hw : woT x n i v) : kdT x n i = 256 + (k : Int) ↔ (soT x n i = 1 ∧ v = vlW w 0) := by
  have hk16 : k < 16 := by
    have z := (List.getElem?_eq_some_iff.mp hk).1
    have y : wds.length = 16 := by decide
    omega
  have wl := wds_lt w (List.mem_of_getElem? hk)
  by_cases h1 : soT x n i = 1
  · obtain ⟨hi, hl⟩ := so_1.mp h1
    have ve : v = if enT x n i - i ≤ 10 then vlW (byF x i (enT x n i - i)) 0 else -1 := by
      unfold woT at hw; rw [if_pos h1] at hw; exact hw
    have er := enT_rg (x := x) hi
    have iff1 := wdT_iff (x := x) (i := i) (e := enT x n i) (by omega) hk
    have wr := wdT_rg (x := x) (i := i) (e := enT x n i)
    have lts : ∀ b ∈ byF x i (enT x n i - i), 97 ≤ b.toInt ∧ b.toInt ≤ 122 := fun b h => by
      obtain ⟨j, a1, a2, a3⟩ := byF_mem _ _ b h
      rw [a3]; exact word_lt hi hl j a1 (by omega)
    rw [kdT_lt hi hl]
    constructor
    · intro h
      refine ⟨h1, ?_⟩
      have e1 : wdT x i (enT x n i) = (k : Int) := by
        split at h
        · omega
        · omega
      have e2 := iff1.mp e1
      have e3 : enT x n i - i = w.length := by rw [← e2, byF_len]
      rw [ve, if_pos (by omega), e2]
    · intro h
      have hv := h.2
      rw [ve] at hv
      have wpos := (vlW_rg w 0 wl.2 (Int.le_refl _)).1
      have e1 : byF x i (enT x n i - i) = w := by
        split at hv
        · exact vlW_inj _ _ _ _ rfl rfl lts wl.2 hv
        · omega
      have e2 := iff1.mpr e1
      rw [e2, if_neg (by omega)]
  · constructor
    · intro h
      exfalso
      by_cases hi : i < n
      · by_cases hl : bLt (x i) = true
        · exact h1 (so_1.mpr ⟨hi, hl⟩)
        · by_cases hd : bDg (x i) = true
          · rw [kdT_dg hi hd] at h
            split at h <;> omega
          · rw [kdT_sg hi hl hd] at h
            have z := hb i
            omega
      · rw [kdT_end hi] at h; omega
    · intro h; exact absurd h.1 h1
/-- a sign -/
theorem kind_sign {x : Nat → Int32} {n i : Nat} {v c : Int} (hb : byOK x) (h0 : c < 256) (hc : ¬ (97 ≤ c ∧ c ≤ 122) ∧ ¬ (48 ≤ c ∧ c ≤ 57)) (hw : woT x n i v) : kdT x n i = c ↔ (soT x n i = 3 ∧ v = c) := by
  by_cases hi : i < n
  · by_cases hl : bLt (x i) = true
    · have z := bLt_iff.mp hl
      have s1 := so_1.mpr ⟨hi, hl⟩
      have wr := wdT_rg (x := x) (i := i) (e := enT x n i)
      rw [kdT_lt hi hl]
      constructor
      · intro h; exfalso
        split at h <;> omega
      · intro h; omega
    · by_cases hd : bDg (x i) = true
      · have s2 := so_2.mpr ⟨hi, hd⟩
        rw [kdT_dg hi hd]
        constructor
        · intro h; exfalso
          split at h <;> omega
        · intro h; omega
      · have s3 := so_3.mpr ⟨hi, hl, hd⟩
        have ve : v = (x i).toInt := by
          unfold woT at hw
          rw [if_neg (by omega), if_neg (by omega), if_pos s3] at hw; exact hw
        rw [kdT_sg hi hl hd, ← ve]
        exact ⟨fun h => ⟨s3, h⟩, fun h => h.2⟩
  · have s0 := (so_0 (x := x)).mpr hi
    rw [kdT_end hi]
    constructor
    · intro h; omega
    · intro h; omega
theorem dcF_ge {x : Nat → Int32} {i : Nat} : ∀ n, (∀ j, i ≤ j → j < i + n → 48 ≤ (x j).toInt ∧ (x j).toInt ≤ 57) → 0 ≤ dcF x i n := by
  intro n
  induction n with
  | zero => intro _; exact Int.le_refl _
  | succ n ih =>
    intro h
    have z := ih (fun j a b => h j a (by omega))
    have y := h (i + n) (by omega) (by omega)
    show 0 ≤ 10 * dcF x i n + ((x (i + n)).toInt - 48)
    omega
/-- the class's number: given up beyond 1000 -/
theorem nmb_dc {x : Nat → Int32} {i : Nat} : ∀ (m k : Nat) (v : Int32), (∀ j, i ≤ j → j < i + k + m → 48 ≤ (x j).toInt ∧ (x j).toInt ≤ 57) → 0 ≤ v.toInt → v.toInt ≤ 10009 → (dcF x i k ≤ 1000 → v.toInt = dcF x i k) → (1000 < dcF x i k → 1000 < v.toInt) → (dcF x i (k + m) ≤ 1000 → (nmb x m (i + k) v).toInt = dcF x i (k + m)) ∧ (1000 < dcF x i (k + m) → 1000 < (nmb x m (i + k) v).toInt) := by
  intro m
  induction m with
  | zero => intro k v _ _ _ h1 h2; exact ⟨h1, h2⟩
  | succ m ih =>
    intro k v hd h0 hv h1 h2
    have hx := hd (i + k) (by omega) (by omega)
    have hk0 := dcF_ge (x := x) (i := i) k (fun j a b => hd j a (by omega))
    have es : dcF x i (k + 1) = 10 * dcF x i k + ((x (i + k)).toInt - 48) := rfl
    by_cases q : v.toInt ≤ 1000
    · have e : nmb x (m + 1) (i + k) v = nmb x m (i + (k + 1)) (v * 10 + x (i + k) - 48) := by
        show (if v.toInt ≤ 1000 then nmb x m (i + k + 1) (v * 10 + x (i + k) - 48) else v) = _
        rw [if_pos q]; rfl
      have t1 : (v * 10).toInt = v.toInt * 10 := g5_imul rfl (by decide) (by omega) (by omega)
      have t2 : (v * 10 + x (i + k)).toInt = v.toInt * 10 + (x (i + k)).toInt := g5_iadd t1 rfl (by omega) (by omega)
      have t3 : (v * 10 + x (i + k) - 48).toInt = v.toInt * 10 + (x (i + k)).toInt - 48 := g5_isub t2 (by decide) (by omega) (by omega)
      rw [e, show k + (m + 1) = k + 1 + m by omega]
      refine ih (k + 1) _ (fun j a b => hd j a (by omega)) (by omega) (by omega) (fun h => ?_) (fun h => ?_)
      · have z := h1 (by omega); omega
      · by_cases y : dcF x i k ≤ 1000
        · have z := h1 y; omega
        · have z := h2 (by omega); omega
    · have e : nmb x (m + 1) (i + k) v = v := by
        show (if v.toInt ≤ 1000 then _ else v) = _
        rw [if_neg q]
      have big : 1000 < dcF x i k := Int.not_le.mp (fun y => by have z := h1 y; omega)
      have mono : ∀ a, (∀ j, i ≤ j → j < i + (k + a) → 48 ≤ (x j).toInt ∧ (x j).toInt ≤ 57) → 1000 < dcF x i (k + a) := by
        intro a
        induction a with
        | zero => intro _; exact big
        | succ a iha =>
          intro hh
          have z := iha (fun j a b => hh j a (by omega))
          have y := hh (i + (k + a)) (by omega) (by omega)
          show 1000 < 10 * dcF x i (k + a) + ((x (i + (k + a))).toInt - 48)
          omega
      have z := mono (m + 1) (fun j a b => hd j a (by omega))
      rw [e]
      exact ⟨fun h => by omega, fun _ => by omega⟩
/-- a number -/
theorem kind_num {x : Nat → Int32} {n i : Nat} {v : Int} (hb : byOK x) (hw : woT x n i v) : (kdT x n i = 300 ↔ (soT x n i = 2 ∧ v ≤ 1000)) ∧ (kdT x n i = 300 → (nmT x n i).toInt = v) := by
  by_cases hi : i < n
  · by_cases hl : bLt (x i) = true
    · have s1 := so_1.mpr ⟨hi, hl⟩
      have wr := wdT_rg (x := x) (i := i) (e := enT x n i)
      have ne : kdT x n i ≠ 300 := by
        rw [kdT_lt hi hl]
        split <;> omega
      exact ⟨⟨fun h => absurd h ne, fun h => by omega⟩, fun h => absurd h ne⟩
    · by_cases hd : bDg (x i) = true
      · have s2 := so_2.mpr ⟨hi, hd⟩
        have er := enT_rg (x := x) hi
        have dg := word_dg hi hd
        have nd := nmb_dc (x := x) (i := i) (enT x n i - i) 0 0 (fun j a b => dg j a (by omega)) (by decide) (by decide) (fun _ => rfl) (fun h => by
          have h : 1000 < (0 : Int) := h
          omega)
        rw [Nat.zero_add, Nat.add_zero] at nd
        have ve : (dcF x i (enT x n i - i) ≤ 1000 → v = dcF x i (enT x n i - i)) ∧ (1000 < dcF x i (enT x n i - i) → 1000 < v) := by
          unfold woT at hw
          rw [if_neg (by omega), if_pos s2] at hw; exact hw
        have e1 : nmT x n i = nmb x (enT x n i - i) i 0 := by unfold nmT; rw [if_pos hd]
        rw [kdT_dg hi hd, e1]
        by_cases q : dcF x i (enT x n i - i) ≤ 1000
        · have a1 := nd.1 q
          have a2 := ve.1 q
          rw [if_pos (by omega)]
          exact ⟨⟨fun _ => ⟨s2, by omega⟩, fun _ => rfl⟩, fun _ => by omega⟩
        · have a1 := nd.2 (by omega)
          have a2 := ve.2 (by omega)
          rw [if_neg (by omega)]
          exact ⟨⟨fun h => by omega, fun h => by omega⟩, fun h => by omega⟩
      · have s3 := so_3.mpr ⟨hi, hl, hd⟩
        have z := hb i
        have ne : kdT x n i ≠ 300 := by rw [kdT_sg hi hl hd]; omega
        exact ⟨⟨fun h => absurd h ne, fun h => by omega⟩, fun h => absurd h ne⟩
  · have s0 := (so_0 (x := x)).mpr hi
    have ne : kdT x n i ≠ 300 := by rw [kdT_end hi]; decide
    exact ⟨⟨fun h => absurd h ne, fun h => by omega⟩, fun h => absurd h ne⟩
theorem kind_end {x : Nat → Int32} {n i : Nat} (hb : byOK x) : kdT x n i = 302 ↔ soT x n i = 0 := by
  constructor
  · intro h
    refine so_0.mpr (fun hi => ?_)
    by_cases hl : bLt (x i) = true
    · have wr := wdT_rg (x := x) (i := i) (e := enT x n i)
      rw [kdT_lt hi hl] at h
      split at h <;> omega
    · by_cases hd : bDg (x i) = true
      · rw [kdT_dg hi hd] at h
        split at h <;> omega
      · rw [kdT_sg hi hl hd] at h
        have z := hb i
        omega
  · intro h; exact kdT_end (so_0.mp h)
/-! the model's tokens, at its places -/
def TOKA (x : Nat → Int32) (n i : Nat) (fr to so : Int32) (wo : Int64) : Prop := fr.toInt = (i : Int) ∧ so.toInt = soT x n i ∧ woT x n i wo.toInt ∧ to.toInt = (if i < n then (enT x n i : Int) else (n : Int))
theorem toka_next {x : Nat → Int32} {n k : Nat} {fr to so : Int32} {wo : Int64} (h : TOKA x n (pT x n k) fr to so wo) : skT x n to.toInt.toNat = pT x n (k + 1) := by
  have ht := h.2.2.2
  by_cases q : pT x n k < n
  · rw [if_pos q] at ht
    rw [pT_S q, show to.toInt.toNat = enT x n (pT x n k) by omega]
  · rw [if_neg q] at ht
    have e := pT_le (x := x) (n := n) k
    rw [pT_N q, show to.toInt.toNat = n by omega]
    have z := skT_rg (x := x) (n := n) (i := n) (Nat.le_refl _)
    omega
/-- blanks passed -/
def BLP (x : Nat → Int32) (n : Nat) (t f : Int32) : Prop := skT x n f.toInt.toNat = skT x n t.toInt.toNat
theorem blp_0 {x : Nat → Int32} {n : Nat} {t : Int32} : BLP x n t t := rfl
theorem blp_S {x : Nat → Int32} {n : Nat} {t f f' : Int32} (h : BLP x n t f) (h0 : 0 ≤ f.toInt) (hn : f.toInt < (n : Int)) (hx : (x f.toNatClampNeg).toInt = 32) (e : f'.toInt = f.toInt + 1) : BLP x n t f' := by
  unfold BLP
  rw [← h, show f'.toInt.toNat = f.toInt.toNat + 1 by omega]
  exact (runT_y (by omega) (decide_eq_true hx)).symm
theorem blp_end {x : Nat → Int32} {n : Nat} {t f : Int32} (h : BLP x n t f) (h0 : 0 ≤ f.toInt) (hx : (n : Int) ≤ f.toInt ∨ (x f.toNatClampNeg).toInt ≠ 32) : f.toInt = (skT x n t.toInt.toNat : Int) := by
  have z : skT x n f.toInt.toNat = f.toInt.toNat := runT_n (fun q => by
    rcases hx with y | y
    · omega
    · exact y (bBl_iff.mp q.2))
  rw [← h, z]; omega
/-- a word's letters, its worth so far -/
def WRP (x : Nat → Int32) (n : Nat) (f t : Int32) (w : Int64) : Prop := runT bLt x n t.toInt.toNat = runT bLt x n f.toInt.toNat ∧ w.toInt = (if t.toInt - f.toInt ≤ 10 then vlW (byF x f.toInt.toNat (t.toInt - f.toInt).toNat) 0 else -1) ∧ (∀ j : Nat, f.toInt ≤ (j : Int) → (j : Int) < t.toInt → 97 ≤ (x j).toInt ∧ (x j).toInt ≤ 122)
theorem wrp_0 {x : Nat → Int32} {n : Nat} {f t : Int32} {w : Int64} (e : t.toInt = f.toInt) (hw : w.toInt = 0) : WRP x n f t w := by
  refine ⟨by rw [e], ?_, fun j a b => by omega⟩
  rw [show t.toInt - f.toInt = 0 by omega, if_pos (by decide), hw]; rfl
theorem vlW_lt : ∀ (w : List Int32) (v B : Int), (∀ b ∈ w, 97 ≤ b.toInt ∧ b.toInt ≤ 122) → 0 ≤ v → v < B → vlW w v < B * 32 ^ w.length := by
  intro w
  induction w with
  | nil => intro v B _ _ h; show v < B * 1; omega
  | cons b w ih =>
    intro v B h h0 hv
    have hb := h b List.mem_cons_self
    have z := ih (32 * v + (b.toInt - 96)) (32 * B) (fun c hc => h c (List.mem_cons_of_mem _ hc)) (by omega) (by omega)
    have e : vlW (b :: w) v = vlW w (32 * v + (b.toInt - 96)) := rfl
    have e2 : B * 32 ^ (b :: w).length = 32 * B * 32 ^ w.length := by
      rw [List.length_cons, Int.pow_succ, Int.mul_comm 32 B, Int.mul_assoc, Int.mul_comm (32 ^ w.length) 32]
    rw [e, e2]; exact z
theorem pow32 : ∀ k : Nat, k < 11 → (32 : Int) ^ k ≤ 1125899906842624 := by decide +kernel
theorem wrp_rg {x : Nat → Int32} {n : Nat} {f t : Int32} {w : Int64} (h : WRP x n f t w) (h1 : t.toInt - f.toInt < 10) (h2 : 0 ≤ t.toInt - f.toInt) (h0 : 0 ≤ f.toInt) : 0 ≤ w.toInt ∧ w.toInt < 1125899906842624 := by
  obtain ⟨a, b, c⟩ := h
  rw [if_pos (by omega)] at b
  have hl : ∀ y ∈ byF x f.toInt.toNat (t.toInt - f.toInt).toNat, 97 ≤ y.toInt ∧ y.toInt ≤ 122 := fun y hy => by
    obtain ⟨j, j1, j2, j3⟩ := byF_mem _ _ y hy
    rw [j3]; exact c j (by omega) (by omega)
  have g := (vlW_rg _ 0 hl (Int.le_refl _)).1
  have u := vlW_lt _ 0 1 hl (Int.le_refl _) (by decide)
  rw [byF_len] at u
  have m : (32 : Int) ^ (t.toInt - f.toInt).toNat ≤ 1125899906842624 := pow32 _ (by omega)
  omega
theorem lad_z {x y : Int64} {a b : Int} (hx : x.toInt = a) (hy : y.toInt = b) (h1 : -9223372036854775808 ≤ a + b) (h2 : a + b < 9223372036854775808) : (x + y).toInt = a + b := by
  rw [Int64.toInt_add, hx, hy]
  rw [Int.bmod_def]; split <;> omega
theorem lml_z {x y : Int64} {a b : Int} (hx : x.toInt = a) (hy : y.toInt = b) (h1 : -9223372036854775808 ≤ a * b) (h2 : a * b < 9223372036854775808) : (x * y).toInt = a * b := by
  rw [Int64.toInt_mul, hx, hy]
  rw [Int.bmod_def]; split <;> omega
theorem wrp_S {x : Nat → Int32} {n : Nat} {f t t' : Int32} {w w' : Int64} (h : WRP x n f t w) (h0 : 0 ≤ f.toInt) (hft : f.toInt ≤ t.toInt) (hn : t.toInt < (n : Int)) (hx : 97 ≤ (x t.toNatClampNeg).toInt ∧ (x t.toNatClampNeg).toInt ≤ 122) (e : t'.toInt = t.toInt + 1) (hw : (t.toInt - f.toInt < 10 ∧ w' = w * 32 + (x t.toNatClampNeg).toInt64 - 96) ∨ (10 ≤ t.toInt - f.toInt ∧ w' = -1)) : WRP x n f t' w' := by
  have hx2 : 97 ≤ (x t.toInt.toNat).toInt ∧ (x t.toInt.toNat).toInt ≤ 122 := hx
  refine ⟨?_, ?_, fun j a b => ?_⟩
  · rw [← h.1, show t'.toInt.toNat = t.toInt.toNat + 1 by omega]
    exact (runT_y (by omega) (decide_eq_true hx2)).symm
  · rcases hw with ⟨a, b⟩ | ⟨a, b⟩
    · have rg := wrp_rg h a (by omega) h0
      have hv := h.2.1
      rw [if_pos (by omega)] at hv
      rw [if_pos (by omega), show (t'.toInt - f.toInt).toNat = (t.toInt - f.toInt).toNat + 1 by omega, byF_S, vlW_app, ← hv, show f.toInt.toNat + (t.toInt - f.toInt).toNat = t.toInt.toNat by omega, b]
      have e1 : (w * 32).toInt = w.toInt * 32 := lml_z rfl (by decide) (by omega) (by omega)
      have e2 : (x t.toNatClampNeg).toInt64.toInt = (x t.toInt.toNat).toInt := Int32.toInt_toInt64 _
      have e3 : (w * 32 + (x t.toNatClampNeg).toInt64).toInt = w.toInt * 32 + (x t.toInt.toNat).toInt := lad_z e1 e2 (by omega) (by omega)
      rw [g5_lsub (b := 96) e3 (by decide) (by omega) (by omega)]
      omega
    · rw [if_neg (by omega), b]; decide
  · by_cases q : (j : Int) = t.toInt
    · rw [show j = t.toInt.toNat by omega]; exact hx2
    · exact h.2.2 j a (by omega)
theorem wrp_end {x : Nat → Int32} {n i : Nat} {f t so : Int32} {w : Int64} (h : WRP x n f t w) (hf : f.toInt = (i : Int)) (hft : f.toInt ≤ t.toInt) (hn : i < n) (hx : 97 ≤ (x f.toNatClampNeg).toInt ∧ (x f.toNatClampNeg).toInt ≤ 122) (hso : so.toInt = 1) (he : (n : Int) ≤ t.toInt ∨ (x t.toNatClampNeg).toInt < 97 ∨ 122 < (x t.toNatClampNeg).toInt) : TOKA x n i f t so w := by
  have ei : f.toInt.toNat = i := by omega
  have hl : bLt (x i) = true := by rw [← ei]; exact decide_eq_true hx
  have s1 := (so_1 (x := x) (n := n) (i := i)).mpr ⟨hn, hl⟩
  have r1 : runT bLt x n t.toInt.toNat = t.toInt.toNat := runT_n (fun q => by
    have z := bLt_iff.mp q.2
    have z : 97 ≤ (x t.toNatClampNeg).toInt ∧ (x t.toNatClampNeg).toInt ≤ 122 := z
    omega)
  have r2 : enT x n i = t.toInt.toNat := by
    unfold enT
    rw [if_pos hl, ← runT_y hn hl, ← r1, h.1, ei]
  refine ⟨hf, by rw [s1]; exact hso, ?_, ?_⟩
  · unfold woT
    rw [if_pos s1, h.2.1, r2]
    by_cases q : t.toInt - f.toInt ≤ 10
    · rw [if_pos q, if_pos (by omega), ei, show (t.toInt - f.toInt).toNat = t.toInt.toNat - i by omega]
    · rw [if_neg q, if_neg (by omega)]
  · rw [if_pos hn, r2]; omega
/-- digits, their worth so far -/
def DGP (x : Nat → Int32) (n : Nat) (f t : Int32) (w : Int64) : Prop := runT bDg x n t.toInt.toNat = runT bDg x n f.toInt.toNat ∧ (0 ≤ w.toInt ∧ w.toInt ≤ 10000009) ∧ (dcF x f.toInt.toNat (t.toInt - f.toInt).toNat ≤ 1000 → w.toInt = dcF x f.toInt.toNat (t.toInt - f.toInt).toNat) ∧ (1000 < dcF x f.toInt.toNat (t.toInt - f.toInt).toNat → 1000 < w.toInt) ∧ (∀ j : Nat, f.toInt ≤ (j : Int) → (j : Int) < t.toInt → 48 ≤ (x j).toInt ∧ (x j).toInt ≤ 57)
theorem dgp_0 {x : Nat → Int32} {n : Nat} {f t : Int32} {w : Int64} (e : t.toInt = f.toInt) (hw : w.toInt = 0) : DGP x n f t w := by
  have z : (t.toInt - f.toInt).toNat = 0 := by omega
  refine ⟨by rw [e], by omega, fun _ => ?_, fun h => ?_, fun j a b => by omega⟩
  · rw [z, hw]; rfl
  · rw [z] at h
    have h : 1000 < (0 : Int) := h
    omega
theorem dgp_S {x : Nat → Int32} {n : Nat} {f t t' : Int32} {w w' : Int64} (h : DGP x n f t w) (h0 : 0 ≤ f.toInt) (hft : f.toInt ≤ t.toInt) (hn : t.toInt < (n : Int)) (hx : 48 ≤ (x t.toNatClampNeg).toInt ∧ (x t.toNatClampNeg).toInt ≤ 57) (e : t'.toInt = t.toInt + 1) (hw : (1000000 < w.toInt ∧ w' = w) ∨ (w.toInt ≤ 1000000 ∧ w' = w * 10 + (x t.toNatClampNeg).toInt64 - 48)) : DGP x n f t' w' := by
  have hx2 : 48 ≤ (x t.toInt.toNat).toInt ∧ (x t.toInt.toNat).toInt ≤ 57 := hx
  obtain ⟨h1, h2, h3, h4, h5⟩ := h
  have ec : (t'.toInt - f.toInt).toNat = (t.toInt - f.toInt).toNat + 1 := by omega
  have ed : dcF x f.toInt.toNat ((t.toInt - f.toInt).toNat + 1) = 10 * dcF x f.toInt.toNat (t.toInt - f.toInt).toNat + ((x t.toInt.toNat).toInt - 48) := by
    show 10 * dcF x f.toInt.toNat (t.toInt - f.toInt).toNat + ((x (f.toInt.toNat + (t.toInt - f.toInt).toNat)).toInt - 48) = _
    rw [show f.toInt.toNat + (t.toInt - f.toInt).toNat = t.toInt.toNat by omega]
  have hd0 := dcF_ge (x := x) (i := f.toInt.toNat) (t.toInt - f.toInt).toNat (fun j a b => h5 j (by omega) (by omega))
  have hw2 : (1000000 < w.toInt ∧ w'.toInt = w.toInt) ∨ (w.toInt ≤ 1000000 ∧ w'.toInt = w.toInt * 10 + (x t.toInt.toNat).toInt - 48) := by
    rcases hw with ⟨a, b⟩ | ⟨a, b⟩
    · exact Or.inl ⟨a, by rw [b]⟩
    · refine Or.inr ⟨a, ?_⟩
      have e1 : (w * 10).toInt = w.toInt * 10 := lml_z rfl (by decide) (by omega) (by omega)
      have e2 : (x t.toNatClampNeg).toInt64.toInt = (x t.toInt.toNat).toInt := Int32.toInt_toInt64 _
      have e3 : (w * 10 + (x t.toNatClampNeg).toInt64).toInt = w.toInt * 10 + (x t.toInt.toNat).toInt := lad_z e1 e2 (by omega) (by omega)
      rw [b, g5_lsub (b := 48) e3 (by decide) (by omega) (by omega)]
  refine ⟨?_, by omega, fun z => ?_, fun z => ?_, fun j a b => ?_⟩
  · rw [← h1, show t'.toInt.toNat = t.toInt.toNat + 1 by omega]
    exact (runT_y (by omega) (decide_eq_true hx2)).symm
  · rw [ec, ed] at z ⊢
    have y := h3 (by omega)
    omega
  · rw [ec, ed] at z
    by_cases y : dcF x f.toInt.toNat (t.toInt - f.toInt).toNat ≤ 1000
    · have u := h3 y; omega
    · have u := h4 (by omega); omega
  · by_cases q : (j : Int) = t.toInt
    · rw [show j = t.toInt.toNat by omega]; exact hx2
    · exact h5 j a (by omega)
theorem dgp_end {x : Nat → Int32} {n i : Nat} {f t so : Int32} {w : Int64} (h : DGP x n f t w) (hf : f.toInt = (i : Int)) (hft : f.toInt ≤ t.toInt) (hn : i < n) (hx : 48 ≤ (x f.toNatClampNeg).toInt ∧ (x f.toNatClampNeg).toInt ≤ 57) (hso : so.toInt = 2) (he : (n : Int) ≤ t.toInt ∨ (x t.toNatClampNeg).toInt < 48 ∨ 57 < (x t.toNatClampNeg).toInt) : TOKA x n i f t so w := by
  have ei : f.toInt.toNat = i := by omega
  have hd : bDg (x i) = true := by rw [← ei]; exact decide_eq_true hx
  have hl : ¬ bLt (x i) = true := fun z => by
    have a := bLt_iff.mp z
    have b := bDg_iff.mp hd
    omega
  have s2 := (so_2 (x := x) (n := n) (i := i)).mpr ⟨hn, hd⟩
  have r1 : runT bDg x n t.toInt.toNat = t.toInt.toNat := runT_n (fun q => by
    have z := bDg_iff.mp q.2
    have z : 48 ≤ (x t.toNatClampNeg).toInt ∧ (x t.toNatClampNeg).toInt ≤ 57 := z
    omega)
  have r2 : enT x n i = t.toInt.toNat := by
    unfold enT
    rw [if_neg hl, if_pos hd, ← runT_y hn hd, ← r1, h.1, ei]
  refine ⟨hf, by rw [s2]; exact hso, ?_, ?_⟩
  · unfold woT
    rw [if_neg (by omega), if_pos s2, r2]
    have z3 := h.2.2.1
    have z4 := h.2.2.2.1
    rw [ei, show (t.toInt - f.toInt).toNat = t.toInt.toNat - i by omega] at z3 z4
    exact ⟨z3, z4⟩
  · rw [if_pos hn, r2]; omega
theorem toka_sign {x : Nat → Int32} {n i : Nat} {f t so : Int32} {w : Int64} (hf : f.toInt = (i : Int)) (hn : i < n) (hl : (x f.toNatClampNeg).toInt < 97 ∨ 122 < (x f.toNatClampNeg).toInt) (hd : (x f.toNatClampNeg).toInt < 48 ∨ 57 < (x f.toNatClampNeg).toInt) (hso : so.toInt = 3) (ht : t.toInt = f.toInt + 1) (hw : w = (x f.toNatClampNeg).toInt64) : TOKA x n i f t so w := by
  have ei : f.toInt.toNat = i := by omega
  have hl : ¬ bLt (x i) = true := fun z => by
    have a := bLt_iff.mp z
    rw [← ei] at a
    have a : 97 ≤ (x f.toNatClampNeg).toInt ∧ (x f.toNatClampNeg).toInt ≤ 122 := a
    omega
  have hd : ¬ bDg (x i) = true := fun z => by
    have a := bDg_iff.mp z
    rw [← ei] at a
    have a : 48 ≤ (x f.toNatClampNeg).toInt ∧ (x f.toNatClampNeg).toInt ≤ 57 := a
    omega
  have s3 := (so_3 (x := x) (n := n) (i := i)).mpr ⟨hn, hl, hd⟩
  have r2 : enT x n i = i + 1 := by unfold enT; rw [if_neg hl, if_neg hd]
  refine ⟨hf, by rw [s3]; exact hso, ?_, ?_⟩
  · unfold woT
    rw [if_neg (by omega), if_neg (by omega), if_pos s3, hw, Int32.toInt_toInt64]
    show (x f.toInt.toNat).toInt = _
    rw [ei]
  · rw [if_pos hn, r2]; omega
theorem toka_end {x : Nat → Int32} {n i : Nat} {f t so : Int32} {w : Int64} (hf : f.toInt = (i : Int)) (hn : i = n) (hso : so.toInt = 0) (ht : t.toInt = f.toInt) : TOKA x n i f t so w := by
  have s0 := (so_0 (x := x) (n := n) (i := i)).mpr (by omega)
  refine ⟨hf, by rw [s0]; exact hso, ?_, ?_⟩
  · unfold woT
    rw [if_neg (by omega), if_neg (by omega), if_neg (by omega)]; trivial
  · rw [if_neg (by omega)]; omega
/-! the machine's steps as the model takes them -/
def plL (pi pa : Nat → Int32) : Nat → PLT
  | 0 => []
  | n + 1 => (pi n, (pa n).toInt.toNat) :: plL pi pa n
theorem plL_congr {pi pa pi' pa' : Nat → Int32} : ∀ n : Nat, (∀ j, j < n → pi' j = pi j ∧ pa' j = pa j) → plL pi' pa' n = plL pi pa n := by
  intro n
  induction n with
  | zero => intro _; rfl
  | succ n ih =>
    intro h
    show (pi' n, (pa' n).toInt.toNat) :: plL pi' pa' n = (pi n, (pa n).toInt.toNat) :: plL pi pa n
    rw [ih (fun j hj => h j (by omega)), (h n (by omega)).1, (h n (by omega)).2]
theorem plL_push {pi pa : Nat → Int32} {p p' x y : Int32} (h0 : 0 ≤ p.toInt) (e : p'.toInt = p.toInt + 1) : plL (upd pi p.toNatClampNeg x) (upd pa p.toNatClampNeg y) p'.toInt.toNat = (x, y.toInt.toNat) :: plL pi pa p.toInt.toNat := by
  rw [show p'.toInt.toNat = p.toInt.toNat + 1 by omega]
  show (upd pi p.toInt.toNat x p.toInt.toNat, (upd pa p.toInt.toNat y p.toInt.toNat).toInt.toNat) :: plL (upd pi p.toInt.toNat x) (upd pa p.toInt.toNat y) p.toInt.toNat = _
  rw [upd_eq, upd_eq, plL_congr (pi := pi) (pa := pa) _ (fun j hj => ⟨upd_ne (by omega), upd_ne (by omega)⟩)]
theorem plL_top {pi pa : Nat → Int32} {p p' : Int32} (h : 0 < p.toInt) (e : p'.toInt = p.toInt - 1) : plL pi pa p.toInt.toNat = (pi p'.toNatClampNeg, (pa p'.toNatClampNeg).toInt.toNat) :: plL pi pa p'.toInt.toNat := by
  rw [show p.toInt.toNat = p'.toInt.toNat + 1 by omega]; rfl
theorem plL_tail {pi pa : Nat → Int32} {p p' : Int32} (h : 0 < p.toInt) (e : p'.toInt = p.toInt - 1) : (plL pi pa p.toInt.toNat).tail = plL pi pa p'.toInt.toNat := by rw [plL_top h e]; rfl
theorem plL_0 {pi pa : Nat → Int32} {p : Int32} (h : p.toInt = 0) : plL pi pa p.toInt.toNat = [] := by rw [h]; rfl
/-! settling -/
def STL (m : Int) (L0 : PLT) (c0 : CD) (op ar pi pa : Nat → Int32) (co pd : Int32) : Prop := stl m (plL pi pa pd.toInt.toNat) (op, ar, co.toInt.toNat) = stl m L0 c0
theorem stl_i0 {m : Int} {op ar pi pa : Nat → Int32} {co pd : Int32} : STL m (plL pi pa pd.toInt.toNat) (op, ar, co.toInt.toNat) op ar pi pa co pd := rfl
theorem stl_iE {m : Int} {L0 : PLT} {c0 : CD} {op ar pi pa : Nat → Int32} {co co' pd pd' : Int32} (h : STL m L0 c0 op ar pi pa co pd) (hp : 0 < pd.toInt) (e : pd'.toInt = pd.toInt - 1) (hm : m ≤ bnd (pi pd'.toNatClampNeg).toInt) (hj : ¬ isJ (pi pd'.toNatClampNeg)) (h0 : 0 ≤ co.toInt) (ec : co'.toInt = co.toInt + 1) : STL m L0 c0 (upd op co.toNatClampNeg (pi pd'.toNatClampNeg)) (upd ar co.toNatClampNeg 0) pi pa co' pd' := by
  unfold STL at h ⊢
  unfold isJ at hj
  rw [← h, plL_top hp e, stl_y hm, if_neg hj, show co'.toInt.toNat = co.toInt.toNat + 1 by omega]
  rfl
theorem ofN_toInt {x : Int32} (h : 0 ≤ x.toInt) : Int32.ofNat x.toInt.toNat = x := by
  have z := Int32.toInt_lt x
  apply Int32.toInt_inj.mp
  rw [Int32.toInt_ofNat_of_lt (by omega)]; omega
theorem stl_iJ {m : Int} {L0 : PLT} {c0 : CD} {op ar pi pa : Nat → Int32} {co pd pd' : Int32} (h : STL m L0 c0 op ar pi pa co pd) (hp : 0 < pd.toInt) (e : pd'.toInt = pd.toInt - 1) (hm : m ≤ bnd (pi pd'.toNatClampNeg).toInt) (hj : isJ (pi pd'.toNatClampNeg)) (h0 : 0 ≤ co.toInt) : STL m L0 c0 op (upd ar (pa pd'.toNatClampNeg).toNatClampNeg co) pi pa co pd' := by
  unfold STL at h ⊢
  unfold isJ at hj
  rw [← h, plL_top hp e, stl_y hm, if_pos hj]
  unfold paC
  show stl m (plL pi pa pd'.toInt.toNat) (op, upd ar (pa pd'.toNatClampNeg).toNatClampNeg co, co.toInt.toNat) = stl m (plL pi pa pd'.toInt.toNat) (op, upd ar (pa pd'.toNatClampNeg).toInt.toNat (Int32.ofNat co.toInt.toNat), co.toInt.toNat)
  rw [ofN_toInt h0]; rfl
theorem stl_iX {m : Int} {L0 : PLT} {c0 : CD} {op ar pi pa : Nat → Int32} {co pd : Int32} (h : STL m L0 c0 op ar pi pa co pd) (h0 : 0 ≤ pd.toInt) (s2 : S2 pi pd.toInt m) : stl m L0 c0 = (plL pi pa pd.toInt.toNat, (op, ar, co.toInt.toNat)) := by
  unfold STL at h
  rw [← h]
  refine stl_top (fun x L e => ?_)
  rcases s2 with z | z
  · rw [plL_0 z] at e; cases e
  · by_cases q : pd.toInt = 0
    · rw [plL_0 q] at e; cases e
    · have e2 : pd.toInt.toNat = (pd.toInt - 1).toNat + 1 := by omega
      rw [e2] at e
      have e3 : (pi (pd.toInt - 1).toNat, (pa (pd.toInt - 1).toNat).toInt.toNat) = x := (List.cons.inj e).1
      rw [← e3]; exact z
/-! the innermost bracket; whether a comparison stands open -/
theorem inr_i0 {pi pa : Nat → Int32} {its k : Int32} (h : its.toInt = -1) (hk : k.toInt = 0) : its.toInt = inr (plL pi pa k.toInt.toNat) := by rw [plL_0 hk, h]; rfl
theorem inr_S {pi pa : Nat → Int32} {k k' : Int32} (h0 : 0 ≤ k.toInt) (e : k'.toInt = k.toInt + 1) : inr (plL pi pa k'.toInt.toNat) = if 30 ≤ (pi k.toNatClampNeg).toInt then (pi k.toNatClampNeg).toInt else inr (plL pi pa k.toInt.toNat) := by
  rw [show k'.toInt.toNat = k.toInt.toNat + 1 by omega]; rfl
theorem inr_iY {pi pa : Nat → Int32} {k k' : Int32} (h0 : 0 ≤ k.toInt) (e : k'.toInt = k.toInt + 1) (h : 30 ≤ (pi k.toNatClampNeg).toInt) : (pi k.toNatClampNeg).toInt = inr (plL pi pa k'.toInt.toNat) := by rw [inr_S h0 e, if_pos h]
theorem inr_iN {pi pa : Nat → Int32} {k k' its : Int32} (hi : its.toInt = inr (plL pi pa k.toInt.toNat)) (h0 : 0 ≤ k.toInt) (e : k'.toInt = k.toInt + 1) (h : ¬ 30 ≤ (pi k.toNatClampNeg).toInt) : its.toInt = inr (plL pi pa k'.toInt.toNat) := by rw [inr_S h0 e, if_neg h]; exact hi
def CMI (pi pa : Nat → Int32) (pd k : Int32) : Prop := cmpd (plL pi pa (k.toInt + 1).toNat) = cmpd (plL pi pa pd.toInt.toNat)
theorem cmi_0 {pi pa : Nat → Int32} {pd k : Int32} (e : k.toInt = pd.toInt - 1) : CMI pi pa pd k := by unfold CMI; rw [show k.toInt + 1 = pd.toInt by omega]
theorem cmpd_S {pi pa : Nat → Int32} {k : Int32} (h : 0 ≤ k.toInt) : cmpd (plL pi pa (k.toInt + 1).toNat) = if 20 ≤ (pi k.toNatClampNeg).toInt ∧ (pi k.toNatClampNeg).toInt ≤ 23 then cmpd (plL pi pa k.toInt.toNat) else decide (24 ≤ (pi k.toNatClampNeg).toInt ∧ (pi k.toNatClampNeg).toInt ≤ 26) := by
  rw [show (k.toInt + 1).toNat = k.toInt.toNat + 1 by omega]; rfl
theorem cmi_S {pi pa : Nat → Int32} {pd k k' : Int32} (h : CMI pi pa pd k) (h0 : 0 ≤ k.toInt) (e : k'.toInt = k.toInt - 1) (hx : 20 ≤ (pi k.toNatClampNeg).toInt ∧ (pi k.toNatClampNeg).toInt ≤ 23) : CMI pi pa pd k' := by
  unfold CMI at h ⊢
  rw [← h, cmpd_S h0, if_pos hx, show k'.toInt + 1 = k.toInt by omega]
theorem cmi_Y {pi pa : Nat → Int32} {pd k : Int32} (h : CMI pi pa pd k) (h0 : 0 ≤ k.toInt) (hx : 24 ≤ (pi k.toNatClampNeg).toInt ∧ (pi k.toNatClampNeg).toInt ≤ 26) : cmpd (plL pi pa pd.toInt.toNat) = true := by
  unfold CMI at h
  rw [← h, cmpd_S h0, if_neg (by omega)]; exact decide_eq_true hx
theorem cmi_N {pi pa : Nat → Int32} {pd k : Int32} (h : CMI pi pa pd k) (hx : k.toInt < 0 ∨ (((pi k.toNatClampNeg).toInt < 20 ∨ 23 < (pi k.toNatClampNeg).toInt) ∧ ((pi k.toNatClampNeg).toInt < 24 ∨ 26 < (pi k.toNatClampNeg).toInt))) (h1 : -1 ≤ k.toInt) : cmpd (plL pi pa pd.toInt.toNat) = false := by
  unfold CMI at h
  rw [← h]
  by_cases q : k.toInt < 0
  · rw [show (k.toInt + 1).toNat = 0 by omega]; rfl
  · rw [cmpd_S (by omega), if_neg (by omega)]; exact decide_eq_false (by omega)
/-! where the machine is -/
def S0X (gt : Int32) (gk : Nat) (gop gar : Nat → Int32) (gco gle : Int32) : MS := (gk, (if gt.toInt = 1 then 0 else 1), false, [], 0, (gop, gar, gco.toInt.toNat), gle.toInt.toNat)
def mstX (x : Nat → Int32) (td gt : Int32) : MS → MS := mst (decide (gt.toInt = 1)) (KDT x td.toInt.toNat) (NMT x td.toInt.toNat)
/-- how many brackets are open -/
def nb : PLT → Nat
  | [] => 0
  | (o, _) :: L => (if 30 ≤ o.toInt then 1 else 0) + nb L
theorem nb_y {o : Int32} {j : Nat} {L : PLT} (h : 30 ≤ o.toInt) : nb ((o, j) :: L) = nb L + 1 := by
  show (if 30 ≤ o.toInt then 1 else 0) + nb L = _
  rw [if_pos h]; omega
theorem nb_n {o : Int32} {j : Nat} {L : PLT} (h : o.toInt < 30) : nb ((o, j) :: L) = nb L := by
  show (if 30 ≤ o.toInt then 1 else 0) + nb L = _
  rw [if_neg (by omega)]; omega
theorem nb_stl {m : Int} (hm : 1 ≤ m) : ∀ (P : PLT) (c : CD), nb (stl m P c).1 = nb P := by
  intro P
  induction P with
  | nil => intro c; rfl
  | cons x L ih =>
    intro c
    obtain ⟨o, j⟩ := x
    by_cases q : m ≤ bnd o.toInt
    · rw [stl_y q, ih, nb_n (bnd_ge1 (by omega))]
    · rw [stl_n q]
theorem nb_s {m : Int} {P P1 : PLT} {c c1 : CD} (h : stl m P c = (P1, c1)) (hm : 1 ≤ m) : nb P1 = nb P := by
  have z := nb_stl hm P c
  rw [h] at z; exact z
theorem bnd_op {x : Int} (h : 20 ≤ x ∧ x ≤ 23) : 1 ≤ bnd x := by
  unfold bnd
  rw [if_neg (by omega), if_neg (by omega), if_neg (by omega), if_neg (by omega)]
  split <;> omega
/-- all that is said of the fields beside the machine -/
def FDX (x : Nat → Int32) (td : Int32) (k : Nat) (fr to so : Int32) (wo : Int64) (pi pa : Nat → Int32) (co pd od le : Int32) : Prop := TOKA x td.toInt.toNat (pT x td.toInt.toNat k) fr to so wo ∧ (0 ≤ od.toInt ∧ od.toInt ≤ 8) ∧ (0 ≤ le.toInt ∧ le.toInt ≤ 50) ∧ 0 ≤ co.toInt ∧ 0 ≤ pd.toInt ∧ (nb (plL pi pa pd.toInt.toNat) : Int) = od.toInt
def MSX (k : Nat) (t : Int) (bad : Bool) (op ar pi pa : Nat → Int32) (co pd od le : Int32) : MS := (k, t.toNat, bad, plL pi pa pd.toInt.toNat, od.toInt.toNat, (op, ar, co.toInt.toNat), le.toInt.toNat)
def RQ (x : Nat → Int32) (td gt : Int32) (S0 : MS) (t : Int) (bad : Bool) (fr to so : Int32) (wo : Int64) (op ar pi pa : Nat → Int32) (co pd od le : Int32) : Prop := ∃ k : Nat, RC (mstX x td gt) S0 (MSX k t bad op ar pi pa co pd od le) ∧ FDX x td k fr to so wo pi pa co pd od le
/-- a part is read next -/
def RQ1 (x : Nat → Int32) (td gt : Int32) (S0 : MS) (fr to so : Int32) (wo : Int64) (op ar pi pa : Nat → Int32) (co pd od le : Int32) : Prop := ∃ k : Nat, (∃ t : Int, RC (mstX x td gt) S0 (MSX k t false op ar pi pa co pd od le) ∧ (t = 1 ∨ (t = 0 ∧ KDT x td.toInt.toNat k ≠ 263 ∧ KDT x td.toInt.toNat k ≠ 40))) ∧ FDX x td k fr to so wo pi pa co pd od le
theorem rq_1 {x : Nat → Int32} {td gt : Int32} {S0 : MS} {fr to so : Int32} {wo : Int64} {op ar pi pa : Nat → Int32} {co pd od le : Int32} (h : RQ x td gt S0 1 false fr to so wo op ar pi pa co pd od le) : RQ1 x td gt S0 fr to so wo op ar pi pa co pd od le := by
  obtain ⟨k, h1, h2⟩ := h
  exact ⟨k, ⟨1, h1, Or.inl rfl⟩, h2⟩
theorem rq1_st {x : Nat → Int32} {td gt : Int32} {k : Nat} {t : Int} {op ar pi pa : Nat → Int32} {co pd od le : Int32} (h : t = 1 ∨ (t = 0 ∧ KDT x td.toInt.toNat k ≠ 263 ∧ KDT x td.toInt.toNat k ≠ 40)) : mstX x td gt (MSX k t false op ar pi pa co pd od le) = mPart (KDT x td.toInt.toNat) (NMT x td.toInt.toNat) k (plL pi pa pd.toInt.toNat) od.toInt.toNat (op, ar, co.toInt.toNat) le.toInt.toNat := by
  rcases h with rfl | ⟨rfl, h1, h2⟩
  · rfl
  · show (if KDT x td.toInt.toNat k = 263 then _ else if KDT x td.toInt.toNat k = 40 then _ else _) = _
    rw [if_neg h1, if_neg h2]
section STEPS
variable {x : Nat → Int32} {td gt : Int32} {S0 : MS} {k : Nat} {fr to so fr' to' so' : Int32} {wo wo' : Int64} {op ar pi pa : Nat → Int32} {co pd od le co' pd' od' le' : Int32}
/-- a bracket -/
theorem rq_open {b : Int32} {t t' : Int} (hS : RC (mstX x td gt) S0 (MSX k t false op ar pi pa co pd od le)) (hst : mstX x td gt (MSX k t false op ar pi pa co pd od le) = mOpen b t'.toNat k (plL pi pa pd.toInt.toNat) od.toInt.toNat (op, ar, co.toInt.toNat) le.toInt.toNat) (F : FDX x td k fr to so wo pi pa co pd od le) (ho : od.toInt < 8) (T : TOKA x td.toInt.toNat (pT x td.toInt.toNat (k + 1)) fr' to' so' wo') (e1 : pd'.toInt = pd.toInt + 1) (e2 : od'.toInt = od.toInt + 1) (hb : 30 ≤ b.toInt := by decide) : RQ x td gt S0 t' false fr' to' so' wo' op ar (upd pi pd.toNatClampNeg b) (upd pa pd.toNatClampNeg 0) co pd' od' le := by
  obtain ⟨f1, f2, f3, f4, f5, f6⟩ := F
  refine ⟨k + 1, rc_tr hS (rc_st ?_), T, by omega, f3, f4, by omega, by rw [plL_push f5 e1, nb_y hb]; omega⟩
  rw [hst]
  unfold mOpen MSX
  rw [if_pos (by omega), plL_push f5 e1, show od'.toInt.toNat = od.toInt.toNat + 1 by omega]
  rfl
theorem rq_openB {b : Int32} {t t' : Int} (hS : RC (mstX x td gt) S0 (MSX k t false op ar pi pa co pd od le)) (hst : mstX x td gt (MSX k t false op ar pi pa co pd od le) = mOpen b t'.toNat k (plL pi pa pd.toInt.toNat) od.toInt.toNat (op, ar, co.toInt.toNat) le.toInt.toNat) (F : FDX x td k fr to so wo pi pa co pd od le) (ho : 8 ≤ od.toInt) : RQ x td gt S0 t' true fr to so wo op ar pi pa co pd od le := by
  refine ⟨k, rc_tr hS (rc_st ?_), F⟩
  rw [hst]
  unfold mOpen MSX
  rw [if_neg (by omega)]
/-- a part that is one -/
theorem rq_leaf {t : Int} {o v : Int32} (hS : RC (mstX x td gt) S0 (MSX k t false op ar pi pa co pd od le)) (hst : mstX x td gt (MSX k t false op ar pi pa co pd od le) = mPart (KDT x td.toInt.toNat) (NMT x td.toInt.toNat) k (plL pi pa pd.toInt.toNat) od.toInt.toNat (op, ar, co.toInt.toNat) le.toInt.toNat) (F : FDX x td k fr to so wo pi pa co pd od le) (hk : KDT x td.toInt.toNat k = 300 ∨ (264 ≤ KDT x td.toInt.toNat k ∧ KDT x td.toInt.toNat k < 272)) (hle : le.toInt < 50) (ho : o.toInt = if KDT x td.toInt.toNat k = 300 then 0 else KDT x td.toInt.toNat k - 263) (hv : v = if KDT x td.toInt.toNat k = 300 then NMT x td.toInt.toNat k else 0) (T : TOKA x td.toInt.toNat (pT x td.toInt.toNat (k + 1)) fr' to' so' wo') (e1 : co'.toInt = co.toInt + 1) (e2 : le'.toInt = le.toInt + 1) : RQ x td gt S0 3 false fr' to' so' wo' (upd op co.toNatClampNeg o) (upd ar co.toNatClampNeg v) pi pa co' pd od le' := by
  obtain ⟨f1, f2, f3, f4, f5, f6⟩ := F
  refine ⟨k + 1, rc_tr hS (rc_st ?_), T, f2, by omega, by omega, f5, f6⟩
  have eo : Int32.ofInt (if KDT x td.toInt.toNat k = 300 then 0 else KDT x td.toInt.toNat k - 263) = o := by rw [← ho]; exact Int32.ofInt_toInt o
  rw [hst]
  unfold mPart MSX
  rw [if_neg (by omega), if_pos ⟨hk, by omega⟩, eo, ← hv, show co'.toInt.toNat = co.toInt.toNat + 1 by omega, show le'.toInt.toNat = le.toInt.toNat + 1 by omega]
  rfl
theorem rq_leafB {t : Int} (hS : RC (mstX x td gt) S0 (MSX k t false op ar pi pa co pd od le)) (hst : mstX x td gt (MSX k t false op ar pi pa co pd od le) = mPart (KDT x td.toInt.toNat) (NMT x td.toInt.toNat) k (plL pi pa pd.toInt.toNat) od.toInt.toNat (op, ar, co.toInt.toNat) le.toInt.toNat) (F : FDX x td k fr to so wo pi pa co pd od le) (h91 : KDT x td.toInt.toNat k ≠ 91) (hk : ¬ (KDT x td.toInt.toNat k = 300 ∨ (264 ≤ KDT x td.toInt.toNat k ∧ KDT x td.toInt.toNat k < 272)) ∨ 50 ≤ le.toInt) : RQ x td gt S0 3 true fr to so wo op ar pi pa co pd od le := by
  refine ⟨k, rc_tr hS (rc_st ?_), F⟩
  rw [hst]
  unfold mPart MSX
  have f3 := F.2.2.1
  rw [if_neg h91, if_neg (fun z => by
    rcases hk with y | y
    · exact y z.1
    · have z2 := z.2
      omega)]
  rfl
theorem rq_not (hS : RC (mstX x td gt) S0 (MSX k 0 false op ar pi pa co pd od le)) (F : FDX x td k fr to so wo pi pa co pd od le) (hk : KDT x td.toInt.toNat k = 263) (T : TOKA x td.toInt.toNat (pT x td.toInt.toNat (k + 1)) fr' to' so' wo') (e1 : pd'.toInt = pd.toInt + 1) : RQ x td gt S0 0 false fr' to' so' wo' op ar (upd pi pd.toNatClampNeg 27) (upd pa pd.toNatClampNeg 0) co pd' od le := by
  obtain ⟨f1, f2, f3, f4, f5, f6⟩ := F
  refine ⟨k + 1, rc_tr hS (rc_st ?_), T, f2, f3, f4, by omega, by rw [plL_push f5 e1, nb_n (o := 27) (by decide)]; exact f6⟩
  show (if KDT x td.toInt.toNat k = 263 then _ else _) = _
  rw [if_pos hk]
  unfold MSX
  rw [plL_push f5 e1]
  rfl
/-! behind a sum -/
theorem rq_op {o : Int32} {op1 ar1 : Nat → Int32} {co1 pd1 : Int32} (hS : RC (mstX x td gt) S0 (MSX k 3 false op ar pi pa co pd od le)) (F : FDX x td k fr to so wo pi pa co pd od le) (hk : opM (KDT x td.toInt.toNat k) = o.toInt) (hne : o.toInt ≠ 0) (hs : stl (bnd o.toInt) (plL pi pa pd.toInt.toNat) (op, ar, co.toInt.toNat) = (plL pi pa pd1.toInt.toNat, (op1, ar1, co1.toInt.toNat))) (T : TOKA x td.toInt.toNat (pT x td.toInt.toNat (k + 1)) fr' to' so' wo') (e1 : pd'.toInt = pd1.toInt + 1) (h0 : 0 ≤ pd1.toInt) (h1 : 0 ≤ co1.toInt) : RQ x td gt S0 1 false fr' to' so' wo' op1 ar1 (upd pi pd1.toNatClampNeg o) (upd pa pd1.toNatClampNeg 0) co1 pd' od le := by
  obtain ⟨f1, f2, f3, f4, f5, f6⟩ := F
  refine ⟨k + 1, rc_tr hS (rc_st ?_), T, f2, f3, h1, by omega, by
    have r9 := opM_rg (KDT x td.toInt.toNat k)
    rw [plL_push h0 e1, nb_n (o := o) (by omega), nb_s hs (bnd_op ⟨by omega, by omega⟩)]; exact f6⟩
  show (if opM (KDT x td.toInt.toNat k) ≠ 0 then _ else _) = _
  rw [if_pos (by omega), hk, hs, Int32.ofInt_toInt]
  unfold MSX
  rw [plL_push h0 e1]
  rfl
theorem rq_sq {op1 ar1 : Nat → Int32} {co1 pd1 : Int32} (hS : RC (mstX x td gt) S0 (MSX k 3 false op ar pi pa co pd od le)) (F : FDX x td k fr to so wo pi pa co pd od le) (hk : KDT x td.toInt.toNat k = 93) (hi : inr (plL pi pa pd.toInt.toNat) = 31) (hs : stl 5 (plL pi pa pd.toInt.toNat) (op, ar, co.toInt.toNat) = (plL pi pa pd1.toInt.toNat, (op1, ar1, co1.toInt.toNat))) (T : TOKA x td.toInt.toNat (pT x td.toInt.toNat (k + 1)) fr' to' so' wo') (hp : 0 < pd1.toInt) (e1 : pd'.toInt = pd1.toInt - 1) (ho : 30 ≤ (pi pd'.toNatClampNeg).toInt) (e2 : od'.toInt = od.toInt - 1) (h1 : 0 ≤ co1.toInt) : RQ x td gt S0 3 false fr' to' so' wo' op1 ar1 pi pa co1 pd' od' le := by
  obtain ⟨f1, f2, f3, f4, f5, f6⟩ := F
  have n1 := nb_s hs (by decide)
  have n2 : nb (plL pi pa pd1.toInt.toNat) = nb (plL pi pa pd'.toInt.toNat) + 1 := by
    rw [show pd1.toInt.toNat = pd'.toInt.toNat + 1 by omega]
    exact nb_y ho
  refine ⟨k + 1, rc_tr hS (rc_st ?_), T, by omega, f3, h1, by omega, by omega⟩
  show (if opM (KDT x td.toInt.toNat k) ≠ 0 then _ else if _ then (if _ then _ else _) else _) = _
  rw [if_neg (by rw [hk]; decide), if_pos hi, if_pos hk, hs]
  unfold MSX
  rw [plL_tail hp e1, show od'.toInt.toNat = od.toInt.toNat - 1 by omega]
  rfl
theorem rq_sqB (hS : RC (mstX x td gt) S0 (MSX k 3 false op ar pi pa co pd od le)) (F : FDX x td k fr to so wo pi pa co pd od le) (ho : opM (KDT x td.toInt.toNat k) = 0) (hk : KDT x td.toInt.toNat k ≠ 93) (hi : inr (plL pi pa pd.toInt.toNat) = 31) : RQ x td gt S0 3 true fr to so wo op ar pi pa co pd od le := by
  refine ⟨k, rc_tr hS (rc_st ?_), F⟩
  show (if opM (KDT x td.toInt.toNat k) ≠ 0 then _ else if _ then (if _ then _ else _) else _) = _
  rw [if_neg (fun z => z ho), if_pos hi, if_neg hk]
  rfl
theorem rq_over (hS : RC (mstX x td gt) S0 (MSX k 3 false op ar pi pa co pd od le)) (F : FDX x td k fr to so wo pi pa co pd od le) (ho : opM (KDT x td.toInt.toNat k) = 0) (hi : inr (plL pi pa pd.toInt.toNat) = -1) (hg : gt.toInt ≠ 1) : RQ x td gt S0 4 false fr to so wo op ar pi pa co pd od le := by
  refine ⟨k, rc_tr hS (rc_st ?_), F⟩
  show (if opM (KDT x td.toInt.toNat k) ≠ 0 then _ else if _ then _ else if _ then _ else _) = _
  rw [if_neg (fun z => z ho), if_neg (by rw [hi]; decide), if_pos ⟨hi, decide_eq_false hg⟩]
  rfl
theorem rq_told (hS : RC (mstX x td gt) S0 (MSX k 3 false op ar pi pa co pd od le)) (F : FDX x td k fr to so wo pi pa co pd od le) (ho : opM (KDT x td.toInt.toNat k) = 0) (hi : inr (plL pi pa pd.toInt.toNat) ≠ 31) (hg : gt.toInt = 1 ∨ inr (plL pi pa pd.toInt.toNat) ≠ -1) (hc : cmpd (plL pi pa pd.toInt.toNat) = true) : RQ x td gt S0 2 false fr to so wo op ar pi pa co pd od le := by
  refine ⟨k, rc_tr hS (rc_st ?_), F⟩
  show (if opM (KDT x td.toInt.toNat k) ≠ 0 then _ else if _ then _ else if _ then _ else if _ then _ else _) = _
  rw [if_neg (fun z => z ho), if_neg hi, if_neg (fun z => by
    rcases hg with y | y
    · exact absurd z.2 (by rw [decide_eq_true y]; decide)
    · exact y z.1), if_pos hc]
  rfl
theorem rq_cmp {o : Int32} {op1 ar1 : Nat → Int32} {co1 pd1 : Int32} (hS : RC (mstX x td gt) S0 (MSX k 3 false op ar pi pa co pd od le)) (F : FDX x td k fr to so wo pi pa co pd od le) (hk : cpM (KDT x td.toInt.toNat k) = o.toInt) (hne : o.toInt ≠ 0) (ho : opM (KDT x td.toInt.toNat k) = 0) (hi : inr (plL pi pa pd.toInt.toNat) ≠ 31) (hg : gt.toInt = 1 ∨ inr (plL pi pa pd.toInt.toNat) ≠ -1) (hc : cmpd (plL pi pa pd.toInt.toNat) = false) (hs : stl 5 (plL pi pa pd.toInt.toNat) (op, ar, co.toInt.toNat) = (plL pi pa pd1.toInt.toNat, (op1, ar1, co1.toInt.toNat))) (T : TOKA x td.toInt.toNat (pT x td.toInt.toNat (k + 1)) fr' to' so' wo') (e1 : pd'.toInt = pd1.toInt + 1) (h0 : 0 ≤ pd1.toInt) (h1 : 0 ≤ co1.toInt) : RQ x td gt S0 1 false fr' to' so' wo' op1 ar1 (upd pi pd1.toNatClampNeg o) (upd pa pd1.toNatClampNeg 0) co1 pd' od le := by
  obtain ⟨f1, f2, f3, f4, f5, f6⟩ := F
  refine ⟨k + 1, rc_tr hS (rc_st ?_), T, f2, f3, h1, by omega, by
    have r9 := cpM_rg (KDT x td.toInt.toNat k)
    rw [plL_push h0 e1, nb_n (o := o) (by omega), nb_s hs (by decide)]; exact f6⟩
  show (if opM (KDT x td.toInt.toNat k) ≠ 0 then _ else if _ then _ else if _ then _ else if _ then _ else if _ then _ else _) = _
  rw [if_neg (fun z => z ho), if_neg hi, if_neg (fun z => by
    rcases hg with y | y
    · exact absurd z.2 (by rw [decide_eq_true y]; decide)
    · exact y z.1), if_neg (by rw [hc]; decide), if_pos (by omega), hk, hs, Int32.ofInt_toInt]
  unfold MSX
  rw [plL_push h0 e1]
  rfl
theorem rq_cmpB (hS : RC (mstX x td gt) S0 (MSX k 3 false op ar pi pa co pd od le)) (F : FDX x td k fr to so wo pi pa co pd od le) (hk : cpM (KDT x td.toInt.toNat k) = 0) (ho : opM (KDT x td.toInt.toNat k) = 0) (hi : inr (plL pi pa pd.toInt.toNat) ≠ 31) (hg : gt.toInt = 1 ∨ inr (plL pi pa pd.toInt.toNat) ≠ -1) (hc : cmpd (plL pi pa pd.toInt.toNat) = false) : RQ x td gt S0 1 true fr to so wo op ar pi pa co pd od le := by
  refine ⟨k, rc_tr hS (rc_st ?_), F⟩
  show (if opM (KDT x td.toInt.toNat k) ≠ 0 then _ else if _ then _ else if _ then _ else if _ then _ else if _ then _ else _) = _
  rw [if_neg (fun z => z ho), if_neg hi, if_neg (fun z => by
    rcases hg with y | y
    · exact absurd z.2 (by rw [decide_eq_true y]; decide)
    · exact y z.1), if_neg (by rw [hc]; decide), if_neg (fun z => z hk)]
  rfl
/-! behind a test -/
theorem rq_jmp {o : Int32} {m : Int} {op1 ar1 : Nat → Int32} {co1 pd1 : Int32} (hS : RC (mstX x td gt) S0 (MSX k 2 false op ar pi pa co pd od le)) (F : FDX x td k fr to so wo pi pa co pd od le) (hk : (KDT x td.toInt.toNat k = 262 ∧ o = 28 ∧ m = 2) ∨ (KDT x td.toInt.toNat k = 261 ∧ o = 29 ∧ m = 1)) (hs : stl m (plL pi pa pd.toInt.toNat) (op, ar, co.toInt.toNat) = (plL pi pa pd1.toInt.toNat, (op1, ar1, co1.toInt.toNat))) (T : TOKA x td.toInt.toNat (pT x td.toInt.toNat (k + 1)) fr' to' so' wo') (e1 : pd'.toInt = pd1.toInt + 1) (h0 : 0 ≤ pd1.toInt) (h1 : 0 ≤ co1.toInt) (e2 : co'.toInt = co1.toInt + 1) : RQ x td gt S0 0 false fr' to' so' wo' (upd op1 co1.toNatClampNeg o) (upd ar1 co1.toNatClampNeg 0) (upd pi pd1.toNatClampNeg o) (upd pa pd1.toNatClampNeg co1) co' pd' od le := by
  obtain ⟨f1, f2, f3, f4, f5, f6⟩ := F
  refine ⟨k + 1, rc_tr hS (rc_st ?_), T, f2, f3, by omega, by omega, by
    rw [plL_push h0 e1, nb_n (o := o) (by rcases hk with ⟨_, b, _⟩ | ⟨_, b, _⟩ <;> (rw [b]; decide)), nb_s hs (by omega)]; exact f6⟩
  show (if KDT x td.toInt.toNat k = 262 then _ else if KDT x td.toInt.toNat k = 261 then _ else _) = _
  rcases hk with ⟨a, b, c⟩ | ⟨a, b, c⟩
  · subst b; subst c
    rw [if_pos a, hs]
    unfold MSX
    rw [plL_push h0 e1, show co'.toInt.toNat = co1.toInt.toNat + 1 by omega]
    rfl
  · subst b; subst c
    rw [if_neg (by omega), if_pos a, hs]
    unfold MSX
    rw [plL_push h0 e1, show co'.toInt.toNat = co1.toInt.toNat + 1 by omega]
    rfl
theorem rq_tover (hS : RC (mstX x td gt) S0 (MSX k 2 false op ar pi pa co pd od le)) (F : FDX x td k fr to so wo pi pa co pd od le) (h1 : KDT x td.toInt.toNat k ≠ 262) (h2 : KDT x td.toInt.toNat k ≠ 261) (hi : inr (plL pi pa pd.toInt.toNat) = -1) : RQ x td gt S0 4 false fr to so wo op ar pi pa co pd od le := by
  refine ⟨k, rc_tr hS (rc_st ?_), F⟩
  show (if KDT x td.toInt.toNat k = 262 then _ else if KDT x td.toInt.toNat k = 261 then _ else if _ then _ else _) = _
  rw [if_neg h1, if_neg h2, if_pos hi]
  rfl
theorem rq_rd {op1 ar1 : Nat → Int32} {co1 pd1 : Int32} (hS : RC (mstX x td gt) S0 (MSX k 2 false op ar pi pa co pd od le)) (F : FDX x td k fr to so wo pi pa co pd od le) (hk : KDT x td.toInt.toNat k = 41) (hi : inr (plL pi pa pd.toInt.toNat) ≠ -1) (hs : stl 1 (plL pi pa pd.toInt.toNat) (op, ar, co.toInt.toNat) = (plL pi pa pd1.toInt.toNat, (op1, ar1, co1.toInt.toNat))) (T : TOKA x td.toInt.toNat (pT x td.toInt.toNat (k + 1)) fr' to' so' wo') (hp : 0 < pd1.toInt) (e1 : pd'.toInt = pd1.toInt - 1) (ho : 30 ≤ (pi pd'.toNatClampNeg).toInt) (e2 : od'.toInt = od.toInt - 1) (h1 : 0 ≤ co1.toInt) : RQ x td gt S0 2 false fr' to' so' wo' op1 ar1 pi pa co1 pd' od' le := by
  obtain ⟨f1, f2, f3, f4, f5, f6⟩ := F
  have n1 := nb_s hs (by decide)
  have n2 : nb (plL pi pa pd1.toInt.toNat) = nb (plL pi pa pd'.toInt.toNat) + 1 := by
    rw [show pd1.toInt.toNat = pd'.toInt.toNat + 1 by omega]
    exact nb_y ho
  refine ⟨k + 1, rc_tr hS (rc_st ?_), T, by omega, f3, h1, by omega, by omega⟩
  show (if KDT x td.toInt.toNat k = 262 then _ else if KDT x td.toInt.toNat k = 261 then _ else if _ then _ else if _ then _ else _) = _
  rw [if_neg (by rw [hk]; decide), if_neg (by rw [hk]; decide), if_neg hi, if_pos hk, hs]
  unfold MSX
  rw [plL_tail hp e1, show od'.toInt.toNat = od.toInt.toNat - 1 by omega]
  rfl
theorem rq_rdB (hS : RC (mstX x td gt) S0 (MSX k 2 false op ar pi pa co pd od le)) (F : FDX x td k fr to so wo pi pa co pd od le) (h1 : KDT x td.toInt.toNat k ≠ 262) (h2 : KDT x td.toInt.toNat k ≠ 261) (hk : KDT x td.toInt.toNat k ≠ 41) (hi : inr (plL pi pa pd.toInt.toNat) ≠ -1) : RQ x td gt S0 2 true fr to so wo op ar pi pa co pd od le := by
  refine ⟨k, rc_tr hS (rc_st ?_), F⟩
  show (if KDT x td.toInt.toNat k = 262 then _ else if KDT x td.toInt.toNat k = 261 then _ else if _ then _ else if _ then _ else _) = _
  rw [if_neg h1, if_neg h2, if_neg hi, if_neg hk]
  rfl
end STEPS
/-- it begins -/
theorem rq_begin {x : Nat → Int32} {td gt : Int32} {k : Nat} {t : Int} {fr to so : Int32} {wo : Int64} {op ar pi pa : Nat → Int32} {co pd od le : Int32} (ht : t = if gt.toInt = 1 then 0 else 1) (hp : pd.toInt = 0) (ho : od.toInt = 0) (hc : 0 ≤ co.toInt) (hl : 0 ≤ le.toInt ∧ le.toInt ≤ 50) (T : TOKA x td.toInt.toNat (pT x td.toInt.toNat k) fr to so wo) : RQ x td gt (S0X gt k op ar co le) t false fr to so wo op ar pi pa co pd od le := by
  refine ⟨k, ?_, T, by omega, hl, hc, by omega, by rw [plL_0 hp]; show ((0 : Nat) : Int) = od.toInt; omega⟩
  have e : S0X gt k op ar co le = MSX k t false op ar pi pa co pd od le := by
    unfold S0X MSX
    rw [plL_0 hp, show od.toInt.toNat = 0 by omega]
    by_cases q : gt.toInt = 1
    · rw [ht, if_pos q, if_pos q]; rfl
    · rw [ht, if_neg q, if_neg q]; rfl
  rw [e]; exact rc_rf
/-- an expression, read to its end: settled, or bad -/
def EXR (x : Nat → Int32) (td gt : Int32) (k0 : Nat) (op ar : Nat → Int32) (co le bd' fr' to' so' : Int32) (wo' : Int64) (op' ar' : Nat → Int32) (co' le' : Int32) : Prop := SpS (fun b q d => bd'.toInt = 0 ∧ TOKA x td.toInt.toNat (pT x td.toInt.toNat b) fr' to' so' wo' ∧ le'.toInt = (q : Int) ∧ (gt.toInt = 1 → is01 d) ∧ k0 < b ∧ b ≤ td.toInt.toNat ∧ KC (op, ar, co.toInt.toNat) (op', ar', co'.toInt.toNat) ∧ MC op' ar' co.toInt.toNat co'.toInt.toNat d ∧ co'.toInt + (k0 : Int) ≤ co.toInt + (b : Int)) (fun b => bd'.toInt = 1 ∧ TOKA x td.toInt.toNat (pT x td.toInt.toNat b) fr' to' so' wo') (if gt.toInt = 1 then (rdP (KDT x td.toInt.toNat) (NMT x td.toInt.toNat) 8).2 k0 le.toInt.toNat else (rdP (KDT x td.toInt.toNat) (NMT x td.toInt.toNat) 8).1 k0 le.toInt.toNat)
theorem rq_endB {x : Nat → Int32} {td gt : Int32} {k0 : Nat} {t : Int} {fr to so : Int32} {wo : Int64} {op ar op1 ar1 pi pa : Nat → Int32} {co co1 pd od le le1 : Int32} {op2 ar2 : Nat → Int32} {co2 bd : Int32} (h9 : td.toInt ≤ 400) (hk : k0 ≤ td.toInt.toNat) (hk1 : gt.toInt = 1 → 1 ≤ k0) (hco : co.toInt.toNat ≤ k0) (hb : bd.toInt = 1) (h : RQ x td gt (S0X gt k0 op ar co le) t true fr to so wo op1 ar1 pi pa co1 pd od le1) : EXR x td gt k0 op ar co le bd fr to so wo op2 ar2 co2 le1 := by
  obtain ⟨k, hr, F⟩ := h
  have en := en_tape (x := x) (n := td.toInt.toNat) (by omega)
  unfold EXR
  have fin : ∀ b, BAD (mstX x td gt) (S0X gt k0 op ar co le) b → b = k := fun b hB => by
    obtain ⟨t2, P2, od2, c2, p2, z⟩ := hB
    have e := rc_fin (t0 := decide (gt.toInt = 1)) (kd := KDT x td.toInt.toNat) (nm := NMT x td.toInt.toNat) z hr (Or.inl rfl) (Or.inl rfl)
    exact congrArg (fun z : MS => z.1) e
  have nofin : ∀ b W c' q, ¬ RC (mstX x td gt) (S0X gt k0 op ar co le) (b, 4, false, W, 0, c', q) := fun b W c' q z => by
    have e := rc_fin (t0 := decide (gt.toInt = 1)) (kd := KDT x td.toInt.toNat) (nm := NMT x td.toInt.toNat) z hr (Or.inr rfl) (Or.inl rfl)
    have e2 : false = true := congrArg (fun z : MS => z.2.2.1) e
    cases e2
  by_cases q : gt.toInt = 1
  · rw [if_pos q]
    have e0 : S0X gt k0 op ar co le = (k0, 0, false, [], 0, (op, ar, co.toInt.toNat), le.toInt.toNat) := by unfold S0X; rw [if_pos q]
    have em : mstX x td gt = mst true (KDT x td.toInt.toNat) (NMT x td.toInt.toNat) := by unfold mstX; rw [decide_eq_true q]
    rw [em, e0] at fin nofin
    refine sp_mono (expr_test en (hk1 q) hk hco) (fun b hB => ⟨hb, by rw [fin b hB]; exact F.1⟩) (fun b q2 d hG => ?_)
    obtain ⟨g1, g2, g3, W, c', c'', g4, _⟩ := hG
    exact absurd g4 (nofin _ _ _ _)
  · rw [if_neg q]
    have e0 : S0X gt k0 op ar co le = (k0, 1, false, [], 0, (op, ar, co.toInt.toNat), le.toInt.toNat) := by unfold S0X; rw [if_neg q]
    have em : mstX x td gt = mst false (KDT x td.toInt.toNat) (NMT x td.toInt.toNat) := by unfold mstX; rw [decide_eq_false q]
    rw [em, e0] at fin nofin
    refine sp_mono (expr_sum en hk) (fun b hB => ⟨hb, by rw [fin b hB]; exact F.1⟩) (fun b q2 d hG => ?_)
    obtain ⟨g1, g2, W, c', c'', g4, _⟩ := hG
    exact absurd g4 (nofin _ _ _ _)
theorem rq_end {x : Nat → Int32} {td gt : Int32} {k0 : Nat} {fr to so : Int32} {wo : Int64} {op ar op1 ar1 pi pa : Nat → Int32} {co co1 pd od le le1 : Int32} {op2 ar2 : Nat → Int32} {co2 pd2 bd : Int32} (h9 : td.toInt ≤ 400) (hk : k0 ≤ td.toInt.toNat) (hk1 : gt.toInt = 1 → 1 ≤ k0) (hco : co.toInt.toNat ≤ k0) (h0 : 0 ≤ co.toInt) (h2 : 0 ≤ co2.toInt) (hb : bd.toInt = 0) (h : RQ x td gt (S0X gt k0 op ar co le) 4 false fr to so wo op1 ar1 pi pa co1 pd od le1) (hs : stl 1 (plL pi pa pd.toInt.toNat) (op1, ar1, co1.toInt.toNat) = (plL pi pa pd2.toInt.toNat, (op2, ar2, co2.toInt.toNat))) : EXR x td gt k0 op ar co le bd fr to so wo op2 ar2 co2 le1 := by
  obtain ⟨k, hr, F⟩ := h
  have en := en_tape (x := x) (n := td.toInt.toNat) (by omega)
  have hl := F.2.2.1
  unfold EXR
  have nofin : ∀ b, ¬ BAD (mstX x td gt) (S0X gt k0 op ar co le) b := fun b hB => by
    obtain ⟨t2, P2, od2, c2, p2, z⟩ := hB
    have e := rc_fin (t0 := decide (gt.toInt = 1)) (kd := KDT x td.toInt.toNat) (nm := NMT x td.toInt.toNat) z hr (Or.inl rfl) (Or.inr rfl)
    have e2 : true = false := congrArg (fun z : MS => z.2.2.1) e
    cases e2
  have fin : ∀ b W c' q, RC (mstX x td gt) (S0X gt k0 op ar co le) (b, 4, false, W, 0, c', q) → b = k ∧ W = plL pi pa pd.toInt.toNat ∧ c' = (op1, ar1, co1.toInt.toNat) ∧ q = le1.toInt.toNat := fun b W c' q z => by
    have e := rc_fin (t0 := decide (gt.toInt = 1)) (kd := KDT x td.toInt.toNat) (nm := NMT x td.toInt.toNat) z hr (Or.inr rfl) (Or.inr rfl)
    exact ⟨congrArg (fun z : MS => z.1) e, congrArg (fun z : MS => z.2.2.2.1) e, congrArg (fun z : MS => z.2.2.2.2.2.1) e, congrArg (fun z : MS => z.2.2.2.2.2.2) e⟩
  have use : ∀ b q W c' c'', RC (mstX x td gt) (S0X gt k0 op ar co le) (b, 4, false, W, 0, c', q) → stl 1 W c' = ([], c'') → b = k ∧ c'' = (op2, ar2, co2.toInt.toNat) ∧ le1.toInt = (q : Int) := fun b q W c' c'' g4 g5 => by
    obtain ⟨e1, e2, e3, e4⟩ := fin _ _ _ _ g4
    rw [e2, e3, hs] at g5
    exact ⟨e1, (congrArg (fun z : PLT × CD => z.2) g5).symm, by omega⟩
  by_cases q : gt.toInt = 1
  · rw [if_pos q]
    have e0 : S0X gt k0 op ar co le = (k0, 0, false, [], 0, (op, ar, co.toInt.toNat), le.toInt.toNat) := by unfold S0X; rw [if_pos q]
    have em : mstX x td gt = mst true (KDT x td.toInt.toNat) (NMT x td.toInt.toNat) := by unfold mstX; rw [decide_eq_true q]
    rw [em, e0] at nofin use
    refine sp_mono (expr_test en (hk1 q) hk hco) (fun b hB => absurd hB (nofin b)) (fun b q2 d hG => ?_)
    obtain ⟨g1, g2, g3, W, c', c'', g4, g5, g6, g7, g8⟩ := hG
    obtain ⟨u1, u2, u3⟩ := use b q2 W c' c'' g4 g5
    subst u1; subst u2
    have g8 : co2.toInt.toNat + k0 ≤ co.toInt.toNat + b := g8
    exact ⟨hb, F.1, u3, fun _ => g3, g1, g2, g6, g7, by omega⟩
  · rw [if_neg q]
    have e0 : S0X gt k0 op ar co le = (k0, 1, false, [], 0, (op, ar, co.toInt.toNat), le.toInt.toNat) := by unfold S0X; rw [if_neg q]
    have em : mstX x td gt = mst false (KDT x td.toInt.toNat) (NMT x td.toInt.toNat) := by unfold mstX; rw [decide_eq_false q]
    rw [em, e0] at nofin use
    refine sp_mono (expr_sum en hk) (fun b hB => absurd hB (nofin b)) (fun b q2 d hG => ?_)
    obtain ⟨g1, g2, W, c', c'', g4, g5, g6, g7, g8⟩ := hG
    obtain ⟨u1, u2, u3⟩ := use b q2 W c' c'' g4 g5
    subst u1; subst u2
    have g8 : co2.toInt.toNat + k0 ≤ co.toInt.toNat + b := g8
    exact ⟨hb, F.1, u3, fun z => absurd z q, g1, g2, g6, g7, by omega⟩
/-! kinds by what the model asks -/
section KINDS
variable {x : Nat → Int32} {n k : Nat} {fr to so : Int32} {wo : Int64}
theorem tk_sign {c : Int} (hb : byOK x) (T : TOKA x n (pT x n k) fr to so wo) (h0 : c < 256) (hc : ¬ (97 ≤ c ∧ c ≤ 122) ∧ ¬ (48 ≤ c ∧ c ≤ 57)) : KDT x n k = c ↔ (so.toInt = 3 ∧ wo.toInt = c) := by
  have z := kind_sign hb h0 hc T.2.2.1
  rw [← T.2.1] at z; exact z
theorem tk_word {j : Nat} {w : List Int32} (hb : byOK x) (T : TOKA x n (pT x n k) fr to so wo) (hj : wds[j]? = some w) : KDT x n k = 256 + (j : Int) ↔ (so.toInt = 1 ∧ wo.toInt = vlW w 0) := by
  have z := kind_word hb hj T.2.2.1
  rw [← T.2.1] at z; exact z
theorem tk_num (hb : byOK x) (T : TOKA x n (pT x n k) fr to so wo) : (KDT x n k = 300 ↔ (so.toInt = 2 ∧ wo.toInt ≤ 1000)) ∧ (KDT x n k = 300 → (NMT x n k).toInt = wo.toInt) := by
  have z := kind_num hb T.2.2.1
  rw [← T.2.1] at z; exact z
theorem tk_end (hb : byOK x) (T : TOKA x n (pT x n k) fr to so wo) : KDT x n k = 302 ↔ so.toInt = 0 := by
  have z := kind_end (x := x) (n := n) (i := pT x n k) hb
  rw [← T.2.1] at z; exact z
end KINDS
/-- the two rows of words -/
def WSI (ws hw : Nat → Int64) : Prop := (ws 0).toInt = 7734899 ∧ (ws 1).toInt = 24 ∧ (ws 2).toInt = 25 ∧ (ws 3).toInt = 278194 ∧ (ws 4).toInt = 23609 ∧ (ws 5).toInt = 81049 ∧ (ws 6).toInt = 20583955 ∧ (ws 7).toInt = 86285588 ∧ (hw 0).toInt = 394885 ∧ (hw 1).toInt = 153204 ∧ (hw 2).toInt = 117118547 ∧ (hw 3).toInt = 3544114
theorem wsi_ws {ws hw : Nat → Int64} (h : WSI ws hw) {j : Nat} (hj : j < 8) : ∃ w, wds[8 + j]? = some w ∧ (ws j).toInt = vlW w 0 := by
  obtain ⟨a0, a1, a2, a3, a4, a5, a6, a7, b0, b1, b2, b3⟩ := h
  rcases (show j = 0 ∨ j = 1 ∨ j = 2 ∨ j = 3 ∨ j = 4 ∨ j = 5 ∨ j = 6 ∨ j = 7 by omega) with rfl | rfl | rfl | rfl | rfl | rfl | rfl | rfl
  · exact ⟨_, rfl, a0.trans (by decide +kernel)⟩
  · exact ⟨_, rfl, a1.trans (by decide +kernel)⟩
  · exact ⟨_, rfl, a2.trans (by decide +kernel)⟩
  · exact ⟨_, rfl, a3.trans (by decide +kernel)⟩
  · exact ⟨_, rfl, a4.trans (by decide +kernel)⟩
  · exact ⟨_, rfl, a5.trans (by decide +kernel)⟩
  · exact ⟨_, rfl, a6.trans (by decide +kernel)⟩
  · exact ⟨_, rfl, a7.trans (by decide +kernel)⟩
theorem wsi_hw {ws hw : Nat → Int64} (h : WSI ws hw) {j : Nat} (hj : j < 4) : ∃ w, wds[j]? = some w ∧ (hw j).toInt = vlW w 0 := by
  obtain ⟨a0, a1, a2, a3, a4, a5, a6, a7, b0, b1, b2, b3⟩ := h
  rcases (show j = 0 ∨ j = 1 ∨ j = 2 ∨ j = 3 by omega) with rfl | rfl | rfl | rfl
  · exact ⟨_, rfl, b0.trans (by decide +kernel)⟩
  · exact ⟨_, rfl, b1.trans (by decide +kernel)⟩
  · exact ⟨_, rfl, b2.trans (by decide +kernel)⟩
  · exact ⟨_, rfl, b3.trans (by decide +kernel)⟩
/-- which of so many words it is, as far as was looked -/
def PTW (b m kd its i : Int) : Prop := (its = -1 ∧ ∀ j : Int, 0 ≤ j → j < i → kd ≠ b + j) ∨ (0 ≤ its - m ∧ its - m < i ∧ kd = b + (its - m))
theorem ptw_0 {b m kd its i : Int} (h : its = -1) (hi : i = 0) : PTW b m kd its i := Or.inl ⟨h, fun j a c => by omega⟩
theorem ptw_Y {b m kd its' i i' : Int} (hi : 0 ≤ i) (e : i' = i + 1) (h : kd = b + i) (e2 : its' = i + m) : PTW b m kd its' i' := Or.inr ⟨by omega, by omega, by omega⟩
theorem ptw_N {b m kd its i i' : Int} (h : PTW b m kd its i) (e : i' = i + 1) (hn : kd ≠ b + i) : PTW b m kd its i' := by
  rcases h with ⟨a, c⟩ | ⟨a, c, d⟩
  · refine Or.inl ⟨a, fun j h1 h2 => ?_⟩
    by_cases q : j = i
    · rw [q]; exact hn
    · exact c j h1 (by omega)
  · exact Or.inr ⟨a, by omega, d⟩
theorem pt_word {x : Nat → Int32} {n k : Nat} {fr to so : Int32} {wo : Int64} {ws hw : Nat → Int64} {i : Int32} (hb : byOK x) (W : WSI ws hw) (T : TOKA x n (pT x n k) fr to so wo) (h0 : 0 ≤ i.toInt ∧ i.toInt < 8) : KDT x n k = 264 + i.toInt ↔ (so.toInt = 1 ∧ wo.toInt = (ws i.toNatClampNeg).toInt) := by
  obtain ⟨w, h1, h2⟩ := wsi_ws W (j := i.toInt.toNat) (by omega)
  have z := tk_word hb T h1
  show KDT x n k = 264 + i.toInt ↔ (so.toInt = 1 ∧ wo.toInt = (ws i.toInt.toNat).toInt)
  rw [h2, ← z]
  constructor
  · intro h; omega
  · intro h; omega
theorem pt_head {x : Nat → Int32} {n k : Nat} {fr to so : Int32} {wo : Int64} {ws hw : Nat → Int64} {i : Int32} (hb : byOK x) (W : WSI ws hw) (T : TOKA x n (pT x n k) fr to so wo) (h0 : 0 ≤ i.toInt ∧ i.toInt < 4) : KDT x n k = 256 + i.toInt ↔ (so.toInt = 1 ∧ wo.toInt = (hw i.toNatClampNeg).toInt) := by
  obtain ⟨w, h1, h2⟩ := wsi_hw W (j := i.toInt.toNat) (by omega)
  have z := tk_word hb T h1
  show KDT x n k = 256 + i.toInt ↔ (so.toInt = 1 ∧ wo.toInt = (hw i.toInt.toNat).toInt)
  rw [h2, ← z]
  constructor
  · intro h; omega
  · intro h; omega
/-- the other words -/
theorem tk_wordv {x : Nat → Int32} {n k : Nat} {fr to so : Int32} {wo : Int64} {j : Nat} {w : List Int32} {c v : Int} (hb : byOK x) (T : TOKA x n (pT x n k) fr to so wo) (hj : wds[j]? = some w) (hc : c = 256 + (j : Int)) (hv : vlW w 0 = v) : KDT x n k = c ↔ (so.toInt = 1 ∧ wo.toInt = v) := by
  subst hc
  rw [← hv]; exact tk_word hb T hj
theorem tw_if {x : Nat → Int32} {n k : Nat} {fr to so : Int32} {wo : Int64} (hb : byOK x) (T : TOKA x n (pT x n k) fr to so wo) : KDT x n k = 260 ↔ (so.toInt = 1 ∧ wo.toInt = 294) := tk_wordv (j := 4) hb T rfl (by decide) (by decide +kernel)
theorem tw_or {x : Nat → Int32} {n k : Nat} {fr to so : Int32} {wo : Int64} (hb : byOK x) (T : TOKA x n (pT x n k) fr to so wo) : KDT x n k = 261 ↔ (so.toInt = 1 ∧ wo.toInt = 498) := tk_wordv (j := 5) hb T rfl (by decide) (by decide +kernel)
theorem tw_and {x : Nat → Int32} {n k : Nat} {fr to so : Int32} {wo : Int64} (hb : byOK x) (T : TOKA x n (pT x n k) fr to so wo) : KDT x n k = 262 ↔ (so.toInt = 1 ∧ wo.toInt = 1476) := tk_wordv (j := 6) hb T rfl (by decide) (by decide +kernel)
theorem tw_not {x : Nat → Int32} {n k : Nat} {fr to so : Int32} {wo : Int64} (hb : byOK x) (T : TOKA x n (pT x n k) fr to so wo) : KDT x n k = 263 ↔ (so.toInt = 1 ∧ wo.toInt = 14836) := tk_wordv (j := 7) hb T rfl (by decide) (by decide +kernel)
theorem rq_t {x : Nat → Int32} {td gt : Int32} {S0 : MS} {t t' : Int} {bad : Bool} {fr to so : Int32} {wo : Int64} {op ar pi pa : Nat → Int32} {co pd od le : Int32} (h : RQ x td gt S0 t bad fr to so wo op ar pi pa co pd od le) (e : t' = t) : RQ x td gt S0 t' bad fr to so wo op ar pi pa co pd od le := by rw [e]; exact h
theorem mpart_91 {kd : Nat → Int} {nm : Nat → Int32} {k : Nat} {P : PLT} {od : Nat} {c : CD} {p : Nat} (h : kd k = 91) : mPart kd nm k P od c p = mOpen 31 1 k P od c p := by
  unfold mPart; rw [if_pos h]
theorem mplain_40 {kd : Nat → Int} {nm : Nat → Int32} {k : Nat} {P : PLT} {od : Nat} {c : CD} {p : Nat} (h : kd k = 40) : mPlain kd nm k P od c p = mOpen 30 0 k P od c p := by
  unfold mPlain; rw [if_neg (by rw [h]; decide), if_pos h]
theorem toka_nx {x : Nat → Int32} {n k : Nat} {fr to so fr' to' so' : Int32} {wo wo' : Int64} (T : TOKA x n (pT x n k) fr to so wo) (h : TOKA x n (skT x n to.toInt.toNat) fr' to' so' wo') : TOKA x n (pT x n (k + 1)) fr' to' so' wo' := by rw [← toka_next T]; exact h
theorem stl_c {m : Int} {v : Int32} {L : PLT} {c : CD} {R : PLT × CD} (h : stl v.toInt L c = R) (e : v.toInt = m) : stl m L c = R := by rw [← e]; exact h
theorem toka_tks {x : Nat → Int32} {n i : Nat} {fr to so : Int32} {wo : Int64} (T : TOKA x n i fr to so wo) : TKs so.toInt fr.toInt to.toInt := by
  obtain ⟨t1, t2, t3, t4⟩ := T
  by_cases q : i < n
  · rw [if_pos q] at t4
    have z := enT_rg (x := x) q
    exact Or.inr (by omega)
  · exact Or.inl (by rw [t2]; exact so_0.mpr q)
section LEAF
variable {x : Nat → Int32} {n k : Nat} {fr to so : Int32} {wo : Int64} {its o le : Int}
theorem lf_num (hb : byOK x) (T : TOKA x n (pT x n k) fr to so wo) (hp : PTW 264 1 (KDT x n k) its 8) : (KDT x n k = 300 ∨ (264 ≤ KDT x n k ∧ KDT x n k < 272)) ↔ (its ≠ -1 ∨ (so.toInt = 2 ∧ wo.toInt ≤ 1000)) := by
  have z := (tk_num hb T).1
  constructor
  · intro h
    rcases h with h | h
    · exact Or.inr (z.mp h)
    · refine Or.inl (fun e => ?_)
      rcases hp with ⟨a, b⟩ | ⟨a, b, c⟩
      · exact b (KDT x n k - 264) (by omega) (by omega) (by omega)
      · omega
  · intro h
    rcases h with h | h
    · rcases hp with ⟨a, b⟩ | ⟨a, b, c⟩
      · exact absurd a h
      · exact Or.inr (by omega)
    · exact Or.inl (z.mpr h)
theorem lf_kind (hb : byOK x) (T : TOKA x n (pT x n k) fr to so wo) (hp : PTW 264 1 (KDT x n k) its 8) (h : its ≠ -1 ∨ (so.toInt = 2 ∧ wo.toInt ≤ 1000)) : KDT x n k = 300 ∨ (264 ≤ KDT x n k ∧ KDT x n k < 272) := (lf_num hb T hp).mpr h
theorem lf_bad (hb : byOK x) (T : TOKA x n (pT x n k) fr to so wo) (hp : PTW 264 1 (KDT x n k) its 8) (h : (its = -1 ∧ ¬ (so.toInt = 2 ∧ wo.toInt ≤ 1000)) ∨ 50 ≤ le) : ¬ (KDT x n k = 300 ∨ (264 ≤ KDT x n k ∧ KDT x n k < 272)) ∨ 50 ≤ le := by
  rcases h with h | h
  · exact Or.inl (fun z => by
      rcases (lf_num hb T hp).mp z with y | y
      · exact y h.1
      · exact h.2 y)
  · exact Or.inr h
theorem lf_op (hb : byOK x) (T : TOKA x n (pT x n k) fr to so wo) (hp : PTW 264 1 (KDT x n k) its 8) (h : (its ≠ -1 ∧ o = its) ∨ (o = 0 ∧ so.toInt = 2 ∧ wo.toInt ≤ 1000)) : o = if KDT x n k = 300 then 0 else KDT x n k - 263 := by
  rcases h with ⟨h1, h2⟩ | ⟨h1, h2⟩
  · rcases hp with ⟨a, b⟩ | ⟨a, b, c⟩
    · exact absurd a h1
    · rw [if_neg (by omega)]; omega
  · rw [if_pos ((tk_num hb T).1.mpr h2)]; exact h1
theorem lf_arg0 (hb : byOK x) (T : TOKA x n (pT x n k) fr to so wo) (hp : PTW 264 1 (KDT x n k) its 8) (h : its ≠ -1) : (0 : Int32) = if KDT x n k = 300 then NMT x n k else 0 := by
  rcases hp with ⟨a, b⟩ | ⟨a, b, c⟩
  · exact absurd a h
  · rw [if_neg (by omega)]
theorem lf_argN (hb : byOK x) (T : TOKA x n (pT x n k) fr to so wo) (h : so.toInt = 2 ∧ wo.toInt ≤ 1000) : wo.toInt32 = if KDT x n k = 300 then NMT x n k else 0 := by
  have z := tk_num hb T
  have e := z.1.mpr h
  rw [if_pos e]
  have y := z.2 e
  apply Int32.toInt_inj.mp
  have a := Int32.toInt_lt (NMT x n k)
  have b := Int32.le_toInt (NMT x n k)
  rw [Int64.toInt_toInt32, ← y]
  exact g5_bm (by omega) (by omega)
end LEAF
theorem opM_0 {k : Int} (h1 : k ≠ 43) (h2 : k ≠ 45) (h3 : k ≠ 42) (h4 : k ≠ 47) : opM k = 0 := by
  unfold opM; rw [if_neg h1, if_neg h2, if_neg h3, if_neg h4]
theorem cpM_0 {k : Int} (h1 : k ≠ 60) (h2 : k ≠ 62) (h3 : k ≠ 61) : cpM k = 0 := by
  unfold cpM; rw [if_neg h1, if_neg h2, if_neg h3]
theorem rq_b {x : Nat → Int32} {td gt : Int32} {S0 : MS} {t : Int} {bad bad' : Bool} {fr to so : Int32} {wo : Int64} {op ar pi pa : Nat → Int32} {co pd od le : Int32} (h : RQ x td gt S0 t bad fr to so wo op ar pi pa co pd od le) (e : bad' = bad) : RQ x td gt S0 t bad' fr to so wo op ar pi pa co pd od le := by rw [e]; exact h
/-! the class's tokens -/
section TOKC
variable {x : Nat → Int32} {n : Nat} {a k k' : Int32}
theorem enc_L0 (h0 : 0 ≤ a.toInt) (hn : a.toInt < (n : Int)) (hx : 97 ≤ (x a.toNatClampNeg).toInt ∧ (x a.toNatClampNeg).toInt ≤ 122) (e : k.toInt = a.toInt + 1) : runT bLt x n k.toInt.toNat = enT x n a.toInt.toNat := by
  have hl : bLt (x a.toInt.toNat) = true := decide_eq_true hx
  unfold enT
  rw [if_pos hl, show k.toInt.toNat = a.toInt.toNat + 1 by omega]
theorem enc_D0 (h0 : 0 ≤ a.toInt) (hn : a.toInt < (n : Int)) (hx : 48 ≤ (x a.toNatClampNeg).toInt ∧ (x a.toNatClampNeg).toInt ≤ 57) (e : k.toInt = a.toInt + 1) : runT bDg x n k.toInt.toNat = enT x n a.toInt.toNat := by
  have hd : bDg (x a.toInt.toNat) = true := decide_eq_true hx
  unfold enT
  rw [if_neg (fun z => by have u := bLt_iff.mp z; have v := bDg_iff.mp hd; omega), if_pos hd, show k.toInt.toNat = a.toInt.toNat + 1 by omega]
theorem enc_N (h0 : 0 ≤ a.toInt) (h1 : (x a.toNatClampNeg).toInt < 97 ∨ 122 < (x a.toNatClampNeg).toInt) (h2 : (x a.toNatClampNeg).toInt < 48 ∨ 57 < (x a.toNatClampNeg).toInt) (e : k.toInt = a.toInt + 1) : k.toInt = (enT x n a.toInt.toNat : Int) := by
  unfold enT
  rw [if_neg (fun z => by have u := bLt_iff.mp z; have u : 97 ≤ (x a.toNatClampNeg).toInt ∧ (x a.toNatClampNeg).toInt ≤ 122 := u; omega), if_neg (fun z => by have u := bDg_iff.mp z; have u : 48 ≤ (x a.toNatClampNeg).toInt ∧ (x a.toNatClampNeg).toInt ≤ 57 := u; omega)]
  omega
theorem enc_LS {E : Nat} (h : runT bLt x n k.toInt.toNat = E) (h0 : 0 ≤ k.toInt) (hn : k.toInt < (n : Int)) (hx : 97 ≤ (x k.toNatClampNeg).toInt ∧ (x k.toNatClampNeg).toInt ≤ 122) (e : k'.toInt = k.toInt + 1) : runT bLt x n k'.toInt.toNat = E := by
  rw [← h, show k'.toInt.toNat = k.toInt.toNat + 1 by omega]
  exact (runT_y (by omega) (decide_eq_true hx)).symm
theorem enc_DS {E : Nat} (h : runT bDg x n k.toInt.toNat = E) (h0 : 0 ≤ k.toInt) (hn : k.toInt < (n : Int)) (hx : 48 ≤ (x k.toNatClampNeg).toInt ∧ (x k.toNatClampNeg).toInt ≤ 57) (e : k'.toInt = k.toInt + 1) : runT bDg x n k'.toInt.toNat = E := by
  rw [← h, show k'.toInt.toNat = k.toInt.toNat + 1 by omega]
  exact (runT_y (by omega) (decide_eq_true hx)).symm
theorem enc_LE {E : Nat} (h : runT bLt x n k.toInt.toNat = E) (h0 : 0 ≤ k.toInt) (hx : (n : Int) ≤ k.toInt ∨ (x k.toNatClampNeg).toInt < 97 ∨ 122 < (x k.toNatClampNeg).toInt) : k.toInt = (E : Int) := by
  rw [← h, runT_n (fun q => by
    have z := bLt_iff.mp q.2
    have z : 97 ≤ (x k.toNatClampNeg).toInt ∧ (x k.toNatClampNeg).toInt ≤ 122 := z
    omega)]
  omega
theorem enc_DE {E : Nat} (h : runT bDg x n k.toInt.toNat = E) (h0 : 0 ≤ k.toInt) (hx : (n : Int) ≤ k.toInt ∨ (x k.toNatClampNeg).toInt < 48 ∨ 57 < (x k.toNatClampNeg).toInt) : k.toInt = (E : Int) := by
  rw [← h, runT_n (fun q => by
    have z := bDg_iff.mp q.2
    have z : 48 ≤ (x k.toNatClampNeg).toInt ∧ (x k.toNatClampNeg).toInt ≤ 57 := z
    omega)]
  omega
end TOKC
/-- a word, byte by byte -/
def WCI (x : Nat → Int32) (p t w a s i : Int32) : Prop := wcF x p.toInt.toNat t.toInt.toNat (g5_by.drop i.toInt.toNat) w.toInt a.toInt.toNat (decide (s.toInt = 1)) = wdT x p.toInt.toNat t.toInt.toNat
theorem wci_0 {x : Nat → Int32} {p t w a s i : Int32} (hw : w.toInt = 0) (ha : a.toInt = p.toInt) (hs : s.toInt = 1) (hi : i.toInt = 0) : WCI x p t w a s i := by
  unfold WCI
  rw [hw, ha, hi, decide_eq_true hs]
  exact wcF_wds
theorem by_drop {i : Nat} (h : i < 74) : g5_by.drop i = g5_by.getD i 0 :: g5_by.drop (i + 1) := by
  have l : g5_by.length = 74 := by decide +kernel
  rw [List.drop_eq_getElem_cons (by omega)]
  congr 1
  rw [List.getD_eq_getElem?_getD, List.getElem?_eq_getElem (by omega)]; rfl
theorem wci_end {x : Nat → Int32} {p t w a s i : Int32} (h : WCI x p t w a s i) (hi : 74 ≤ i.toInt) : wdT x p.toInt.toNat t.toInt.toNat = -1 := by
  unfold WCI at h
  have l : g5_by.length = 74 := by decide +kernel
  rw [List.drop_eq_nil_of_le (by omega)] at h
  exact h.symm
theorem wci_B {x : Nat → Int32} {p t w a s i a' s' i' : Int32} {b : Int32} (h : WCI x p t w a s i) (hi : 0 ≤ i.toInt ∧ i.toInt < 74) (hb : b = g5_by.getD i.toNatClampNeg 0) (hn : b.toInt ≠ 32) (ha : 0 ≤ a.toInt) (ea : a'.toInt = a.toInt + 1) (ei : i'.toInt = i.toInt + 1) (ht : 0 ≤ t.toInt) (es : s'.toInt = 1 ↔ (s.toInt = 1 ∧ a.toInt < t.toInt ∧ (x a.toNatClampNeg).toInt = b.toInt)) : WCI x p t w a' s' i' := by
  unfold WCI at h ⊢
  rw [by_drop (by omega)] at h
  have hb2 : g5_by.getD i.toInt.toNat 0 = b := hb.symm
  rw [hb2] at h
  rw [← h, show i'.toInt.toNat = i.toInt.toNat + 1 by omega]
  show _ = (if b ≠ 32 then wcF x p.toInt.toNat t.toInt.toNat (g5_by.drop (i.toInt.toNat + 1)) w.toInt (a.toInt.toNat + 1) (decide (s.toInt = 1) && (decide (a.toInt.toNat < t.toInt.toNat) && decide (x a.toInt.toNat = b))) else _)
  rw [if_pos (fun z => hn (by rw [z]; decide)), show a'.toInt.toNat = a.toInt.toNat + 1 by omega]
  congr 1
  by_cases q : s'.toInt = 1
  · obtain ⟨q1, q2, q3⟩ := es.mp q
    have q4 : x a.toInt.toNat = b := Int32.toInt_inj.mp q3
    rw [decide_eq_true q, decide_eq_true q1, decide_eq_true (show a.toInt.toNat < t.toInt.toNat by omega), decide_eq_true q4]
    rfl
  · rw [decide_eq_false q]
    by_cases q1 : s.toInt = 1
    · by_cases q2 : a.toInt < t.toInt
      · have q3 : ¬ x a.toInt.toNat = b := fun z => q (es.mpr ⟨q1, q2, by
          show (x a.toInt.toNat).toInt = b.toInt
          rw [z]⟩)
        rw [decide_eq_false q3, Bool.and_false, Bool.and_false]
      · rw [decide_eq_false (show ¬ a.toInt.toNat < t.toInt.toNat by omega), Bool.false_and, Bool.and_false]
    · rw [decide_eq_false q1, Bool.false_and]
theorem wci_sp {x : Nat → Int32} {p t w a s i : Int32} {b : Int32} (h : WCI x p t w a s i) (hi : 0 ≤ i.toInt ∧ i.toInt < 74) (hb : b = g5_by.getD i.toNatClampNeg 0) (hn : b.toInt = 32) : (if s.toInt = 1 ∧ a.toInt.toNat = t.toInt.toNat then w.toInt else wcF x p.toInt.toNat t.toInt.toNat (g5_by.drop (i.toInt.toNat + 1)) (w.toInt + 1) p.toInt.toNat true) = wdT x p.toInt.toNat t.toInt.toNat := by
  unfold WCI at h
  rw [by_drop (by omega)] at h
  have hb2 : g5_by.getD i.toInt.toNat 0 = b := hb.symm
  rw [hb2] at h
  have e32 : b = 32 := Int32.toInt_inj.mp (hn.trans (by decide))
  have e5 : wcF x p.toInt.toNat t.toInt.toNat (32 :: g5_by.drop (i.toInt.toNat + 1)) w.toInt a.toInt.toNat (decide (s.toInt = 1)) = (if decide (s.toInt = 1) = true ∧ a.toInt.toNat = t.toInt.toNat then w.toInt else wcF x p.toInt.toNat t.toInt.toNat (g5_by.drop (i.toInt.toNat + 1)) (w.toInt + 1) p.toInt.toNat true) := by
    show (if (32 : Int32) ≠ 32 then _ else _) = _
    rw [if_neg (fun z => z rfl)]
  rw [← h, e32, e5]
  by_cases q : s.toInt = 1 ∧ a.toInt.toNat = t.toInt.toNat
  · rw [if_pos q, if_pos ⟨decide_eq_true q.1, q.2⟩]
  · rw [if_neg q, if_neg (fun z => q ⟨of_decide_eq_true z.1, z.2⟩)]
theorem wci_Y {x : Nat → Int32} {p t w a s i : Int32} {b : Int32} (h : WCI x p t w a s i) (hi : 0 ≤ i.toInt ∧ i.toInt < 74) (hb : b = g5_by.getD i.toNatClampNeg 0) (hn : b.toInt = 32) (hs : s.toInt = 1) (ha : a.toInt = t.toInt) : w.toInt = wdT x p.toInt.toNat t.toInt.toNat := by
  have z := wci_sp h hi hb hn
  rw [if_pos ⟨hs, by rw [ha]⟩] at z; exact z
theorem wci_S {x : Nat → Int32} {p t w a s i w' a' s' i' : Int32} {b : Int32} (h : WCI x p t w a s i) (hi : 0 ≤ i.toInt ∧ i.toInt < 74) (hb : b = g5_by.getD i.toNatClampNeg 0) (hn : b.toInt = 32) (h0 : 0 ≤ a.toInt ∧ 0 ≤ t.toInt) (hs : s.toInt ≠ 1 ∨ a.toInt ≠ t.toInt) (ew : w'.toInt = w.toInt + 1) (ea : a'.toInt = p.toInt) (es : s'.toInt = 1) (ei : i'.toInt = i.toInt + 1) : WCI x p t w' a' s' i' := by
  have z := wci_sp h hi hb hn
  rw [if_neg (by omega)] at z
  unfold WCI
  rw [← z, ew, ea, decide_eq_true es, show i'.toInt.toNat = i.toInt.toNat + 1 by omega]
/-- a letter of the constant, as the class reads it -/
theorem by_char : ∀ i : Nat, i < 74 → (((g5_by.getD i 0 &&& 255).toUInt32 % 65536).toInt32) = g5_by.getD i 0 := by decide +kernel
/-- the class's rows of tokens: as far as they go -/
def TKA (kd nm pl x : Nat → Int32) (n j : Nat) : Prop := ∀ i : Nat, i < j → (kd i).toInt = KDT x n i ∧ nm i = NMT x n i ∧ (pl i).toInt = (pT x n i : Int)
def TKE (kd pl x : Nat → Int32) (n j : Nat) : Prop := pT x n j = n ∧ (kd j).toInt = 302 ∧ (pl j).toInt = (n : Int) ∧ ∀ i : Nat, i < j → pT x n i < n
/-- where cutting stands: so many tokens are behind, the next begins at or behind a place -/
def CUT (x : Nat → Int32) (n t : Nat) (a : Int) : Prop := skT x n a.toNat = pT x n t ∧ ∀ i : Nat, i < t → pT x n i < n
theorem cut_0 {x : Nat → Int32} {n : Nat} {t a : Int32} (ht : t.toInt = 0) (ha : a.toInt = 0) : CUT x n t.toInt.toNat a.toInt := by
  rw [ht, ha]
  exact ⟨rfl, fun i h => by
    have h : i < 0 := h
    omega⟩
theorem tka_0 {kd nm pl x : Nat → Int32} {n : Nat} {t : Int32} (ht : t.toInt = 0) : TKA kd nm pl x n t.toInt.toNat := by
  rw [ht]; exact fun i h => by
    have h : i < 0 := h
    omega
theorem cut_bl {x : Nat → Int32} {n t : Nat} {a a' : Int32} (h : CUT x n t a.toInt) (h0 : 0 ≤ a.toInt) (hn : a.toInt < (n : Int)) (hx : (x a.toNatClampNeg).toInt = 32) (e : a'.toInt = (enT x n a.toInt.toNat : Int)) : CUT x n t a'.toInt := by
  refine ⟨?_, h.2⟩
  rw [← h.1]
  have e1 : enT x n a.toInt.toNat = a.toInt.toNat + 1 := by
    unfold enT
    have hx : (x a.toInt.toNat).toInt = 32 := hx
    rw [if_neg (fun z => by have u := bLt_iff.mp z; omega), if_neg (fun z => by have u := bDg_iff.mp z; omega)]
  rw [show a'.toInt.toNat = a.toInt.toNat + 1 by omega]
  exact (runT_y (by omega) (decide_eq_true hx)).symm
theorem cut_at {x : Nat → Int32} {n t : Nat} {a : Int32} (h : CUT x n t a.toInt) (h0 : 0 ≤ a.toInt) (hx : (x a.toNatClampNeg).toInt ≠ 32) : pT x n t = a.toInt.toNat := by
  rw [← h.1]
  exact runT_n (fun z => hx (bBl_iff.mp z.2))
theorem cut_tk {x : Nat → Int32} {n : Nat} {t t' a a' : Int32} (h : CUT x n t.toInt.toNat a.toInt) (h0 : 0 ≤ a.toInt) (hn : a.toInt < (n : Int)) (hx : (x a.toNatClampNeg).toInt ≠ 32) (ht : 0 ≤ t.toInt) (et : t'.toInt = t.toInt + 1) (e : a'.toInt = (enT x n a.toInt.toNat : Int)) : CUT x n t'.toInt.toNat a'.toInt := by
  have hp := cut_at h h0 hx
  have hlt : pT x n t.toInt.toNat < n := by omega
  rw [show t'.toInt.toNat = t.toInt.toNat + 1 by omega]
  refine ⟨?_, fun i hi => ?_⟩
  · rw [pT_S hlt, hp, show a'.toInt.toNat = enT x n a.toInt.toNat by omega]
  · by_cases q : i = t.toInt.toNat
    · rw [q]; exact hlt
    · exact h.2 i (by omega)
theorem tka_S {kd nm pl x : Nat → Int32} {n : Nat} {t t' a kv nv : Int32} (h : TKA kd nm pl x n t.toInt.toNat) (c : CUT x n t.toInt.toNat a.toInt) (h0 : 0 ≤ a.toInt) (hx : (x a.toNatClampNeg).toInt ≠ 32) (ht : 0 ≤ t.toInt) (et : t'.toInt = t.toInt + 1) (hk : kv.toInt = kdT x n a.toInt.toNat) (hv : nv = nmT x n a.toInt.toNat) : TKA (upd kd t.toNatClampNeg kv) (upd nm t.toNatClampNeg nv) (upd pl t.toNatClampNeg a) x n t'.toInt.toNat := by
  have hp := cut_at c h0 hx
  intro i hi
  by_cases q : i = t.toInt.toNat
  · subst q
    show (upd kd t.toInt.toNat kv t.toInt.toNat).toInt = _ ∧ upd nm t.toInt.toNat nv t.toInt.toNat = _ ∧ (upd pl t.toInt.toNat a t.toInt.toNat).toInt = _
    rw [upd_eq, upd_eq, upd_eq]
    unfold KDT NMT
    rw [hp]
    exact ⟨hk, hv, by omega⟩
  · have q2 : i ≠ t.toNatClampNeg := q
    rw [upd_ne q2, upd_ne q2, upd_ne q2]
    exact h i (by omega)
theorem tka_E {kd nm pl x : Nat → Int32} {n : Nat} {t a p : Int32} (h : TKA kd nm pl x n t.toInt.toNat) (c : CUT x n t.toInt.toNat a.toInt) (ha : (n : Int) ≤ a.toInt) (ha2 : a.toInt ≤ (n : Int)) (hp : p.toInt = (n : Int)) : TKA (upd kd t.toNatClampNeg 302) nm (upd pl t.toNatClampNeg p) x n t.toInt.toNat ∧ TKE (upd kd t.toNatClampNeg 302) (upd pl t.toNatClampNeg p) x n t.toInt.toNat := by
  have e : pT x n t.toInt.toNat = n := by
    rw [← c.1]
    have z := skT_rg (x := x) (n := n) (i := a.toInt.toNat) (by omega)
    omega
  refine ⟨fun i hi => ?_, e, ?_, ?_, c.2⟩
  · have q2 : i ≠ t.toNatClampNeg := by
      have q3 : i ≠ t.toInt.toNat := by omega
      exact q3
    rw [upd_ne q2, upd_ne q2]
    exact h i hi
  · show (upd kd t.toInt.toNat 302 t.toInt.toNat).toInt = 302
    rw [upd_eq]; decide
  · show (upd pl t.toInt.toNat p t.toInt.toNat).toInt = (n : Int)
    rw [upd_eq]; exact hp
/-! a token's kind, as the class finds it -/
section KINDC
variable {x : Nat → Int32} {n : Nat} {a t v r : Int32}
theorem kc_n0 (hn : a.toInt < (n : Int)) (h0 : 0 ≤ a.toInt) (ht : t.toInt = (enT x n a.toInt.toNat : Int)) (hx : 48 ≤ (x a.toNatClampNeg).toInt ∧ (x a.toNatClampNeg).toInt ≤ 57) (hv : v = nmbO x a t 0) (h : v.toInt ≤ 1000) : (300 : Int) = kdT x n a.toInt.toNat := by
  have hd : bDg (x a.toInt.toNat) = true := decide_eq_true hx
  unfold nmbO at hv
  rw [show (t.toInt - a.toInt).toNat = enT x n a.toInt.toNat - a.toInt.toNat by omega] at hv
  rw [kdT_dg (by omega) hd, if_pos (by rw [← hv]; exact h)]
theorem kc_n1 (hn : a.toInt < (n : Int)) (h0 : 0 ≤ a.toInt) (ht : t.toInt = (enT x n a.toInt.toNat : Int)) (hx : 48 ≤ (x a.toNatClampNeg).toInt ∧ (x a.toNatClampNeg).toInt ≤ 57) (hv : v = nmbO x a t 0) (h : 1000 < v.toInt) : (301 : Int) = kdT x n a.toInt.toNat := by
  have hd : bDg (x a.toInt.toNat) = true := decide_eq_true hx
  unfold nmbO at hv
  rw [show (t.toInt - a.toInt).toNat = enT x n a.toInt.toNat - a.toInt.toNat by omega] at hv
  rw [kdT_dg (by omega) hd, if_neg (by rw [← hv]; omega)]
theorem nc_v (h0 : 0 ≤ a.toInt) (ht : t.toInt = (enT x n a.toInt.toNat : Int)) (hx : 48 ≤ (x a.toNatClampNeg).toInt ∧ (x a.toNatClampNeg).toInt ≤ 57) (hv : v = nmbO x a t 0) : v = nmT x n a.toInt.toNat := by
  have hd : bDg (x a.toInt.toNat) = true := decide_eq_true hx
  unfold nmbO at hv
  rw [show (t.toInt - a.toInt).toNat = enT x n a.toInt.toNat - a.toInt.toNat by omega] at hv
  unfold nmT
  rw [if_pos hd]; exact hv
theorem nc_0 (hx : (x a.toNatClampNeg).toInt < 48 ∨ 57 < (x a.toNatClampNeg).toInt) : (0 : Int32) = nmT x n a.toInt.toNat := by
  unfold nmT
  rw [if_neg (fun z => by
    have u := bDg_iff.mp z
    have u : 48 ≤ (x a.toNatClampNeg).toInt ∧ (x a.toNatClampNeg).toInt ≤ 57 := u
    omega)]
theorem kc_w (hn : a.toInt < (n : Int)) (h0 : 0 ≤ a.toInt) (ht : t.toInt = (enT x n a.toInt.toNat : Int)) (hx : 97 ≤ (x a.toNatClampNeg).toInt ∧ (x a.toNatClampNeg).toInt ≤ 122) (hw : r.toInt = wdT x a.toInt.toNat t.toInt.toNat) (h : r.toInt ≠ -1) : 256 + r.toInt = kdT x n a.toInt.toNat := by
  rw [show t.toInt.toNat = enT x n a.toInt.toNat by omega] at hw
  have hl : bLt (x a.toInt.toNat) = true := decide_eq_true hx
  rw [kdT_lt (by omega) hl, if_neg (by omega), hw]
theorem kc_w1 (hn : a.toInt < (n : Int)) (h0 : 0 ≤ a.toInt) (ht : t.toInt = (enT x n a.toInt.toNat : Int)) (hx : 97 ≤ (x a.toNatClampNeg).toInt ∧ (x a.toNatClampNeg).toInt ≤ 122) (hw : r.toInt = wdT x a.toInt.toNat t.toInt.toNat) (h : r.toInt = -1) : (301 : Int) = kdT x n a.toInt.toNat := by
  rw [show t.toInt.toNat = enT x n a.toInt.toNat by omega] at hw
  have hl : bLt (x a.toInt.toNat) = true := decide_eq_true hx
  rw [kdT_lt (by omega) hl, if_pos (by omega)]
theorem kc_s (hn : a.toInt < (n : Int)) (h0 : 0 ≤ a.toInt) (h1 : (x a.toNatClampNeg).toInt < 97 ∨ 122 < (x a.toNatClampNeg).toInt) (h2 : (x a.toNatClampNeg).toInt < 48 ∨ 57 < (x a.toNatClampNeg).toInt) : (x a.toNatClampNeg).toInt = kdT x n a.toInt.toNat := by
  rw [kdT_sg (by omega) (fun z => by
    have u := bLt_iff.mp z
    have u : 97 ≤ (x a.toNatClampNeg).toInt ∧ (x a.toNatClampNeg).toInt ≤ 122 := u
    omega) (fun z => by
    have u := bDg_iff.mp z
    have u : 48 ≤ (x a.toNatClampNeg).toInt ∧ (x a.toNatClampNeg).toInt ≤ 57 := u
    omega)]
  rfl
end KINDC
theorem toki_k {kd nm x : Nat → Int32} {n i : Nat} {a kv nv : Int32} (h : TOKI kd nm) (hk : kv.toInt = kdT x n a.toInt.toNat) (hv : nv = nmT x n a.toInt.toNat) : TOKI (upd kd i kv) (upd nm i nv) := by
  refine tok_set h (fun e => ?_)
  have e3 : kdT x n a.toInt.toNat = 300 := by rw [← hk, e]; decide
  unfold kdT at e3
  by_cases q : a.toInt.toNat < n
  · rw [if_pos q] at e3
    by_cases d : bDg (x a.toInt.toNat) = true
    · rw [if_pos d] at e3
      rw [hv]
      unfold nmT
      rw [if_pos d]
      split at e3
      · assumption
      · omega
    · rw [hv]
      unfold nmT
      rw [if_neg d]; decide
  · rw [if_neg q] at e3; omega
/-! the class's code, read as the model's -/
theorem wv_all : ∀ o : Nat, o < 13 → ∀ a : Nat, a < 1001 → (((nI o <<< ((12 : Int32) &&& 31)) ||| nI a) >>> ((12 : Int32) &&& 31)) = nI o ∧ (((nI o <<< ((12 : Int32) &&& 31)) ||| nI a) &&& 4095) = nI a := by decide +kernel
theorem wv_op {o a : Int32} (ho : 0 ≤ o.toInt ∧ o.toInt ≤ 12) (ha : 0 ≤ a.toInt ∧ a.toInt ≤ 1000) : (((o <<< ((12 : Int32) &&& 31)) ||| a) >>> ((12 : Int32) &&& 31)) = o := by
  have z := (wv_all o.toInt.toNat (by omega) a.toInt.toNat (by omega)).1
  rw [← g5_nI ho.1, ← g5_nI ha.1] at z; exact z
theorem wv_ar {o a : Int32} (ho : 0 ≤ o.toInt ∧ o.toInt ≤ 12) (ha : 0 ≤ a.toInt ∧ a.toInt ≤ 1000) : (((o <<< ((12 : Int32) &&& 31)) ||| a) &&& 4095) = a := by
  have z := (wv_all o.toInt.toNat (by omega) a.toInt.toNat (by omega)).2
  rw [← g5_nI ho.1, ← g5_nI ha.1] at z; exact z
def opT (w : Int32) : Int32 := if (w >>> ((12 : Int32) &&& 31)).toInt = 0 then 0 else if (w >>> ((12 : Int32) &&& 31)).toInt = 1 then (w &&& 4095) + 1 else if (w >>> ((12 : Int32) &&& 31)).toInt ≤ 8 then (if (w >>> ((12 : Int32) &&& 31)).toInt < 2 then 26 else (w >>> ((12 : Int32) &&& 31)) + 18) else if (w >>> ((12 : Int32) &&& 31)).toInt = 9 then 27 else if (w >>> ((12 : Int32) &&& 31)).toInt = 10 then 30 else if (w >>> ((12 : Int32) &&& 31)).toInt = 11 then 29 else 28
def opC (rc : Nat → Int32) : Nat → Int32 := fun k => opT (rc k)
def arC (rc : Nat → Int32) : Nat → Int32 := fun k => rc k &&& 4095
def MCC (rc : Nat → Int32) (a b : Nat) (d : DS) : Prop := MC (opC rc) (arC rc) a b d
/-- how many parts that are numbers or words -/
def lvC (rc : Nat → Int32) (n : Nat) : Nat := lvM (opC rc) 0 n
theorem lvC_congr {rc rc' : Nat → Int32} (n : Nat) (h : ∀ j, j < n → opT (rc' j) = opT (rc j)) : lvC rc' n = lvC rc n := lvM_congr n (fun k _ h2 => by
  have e : opC rc' k = opC rc k := h k (by omega)
  rw [e])
/-- the code so far: its beginning is kept, so many parts are in it -/
def KCC (rc rc' : Nat → Int32) (n : Int) : Prop := ∀ j : Nat, (j : Int) < n → rc' j = rc j
theorem kcc_rf {rc : Nat → Int32} {n : Int} : KCC rc rc n := fun _ _ => rfl
theorem kcc_tr {a b c : Nat → Int32} {n m : Int} (h : KCC a b n) (k : KCC b c m) (hm : n ≤ m) : KCC a c n := fun j hj => (k j (by omega)).trans (h j hj)
theorem mcc_k {rc rc' : Nat → Int32} {a b : Nat} {d : DS} {n : Int} (h : MCC rc a b d) (k : KCC rc rc' n) (hb : (b : Int) ≤ n) : MCC rc' a b d := mc_congr h (fun j _ h2 => by
  have e := k j (by omega)
  unfold opC arC
  rw [e]; exact ⟨rfl, rfl⟩)
section EMIT
variable {rc : Nat → Int32} {l l' v : Int32}
theorem kcc_em (h0 : 0 ≤ l.toInt) : KCC rc (upd rc l.toNatClampNeg v) l.toInt := fun j hj => upd_ne (by have z := g5_clamp l; omega)
theorem opT_0 {a : Int32} (ha : 0 ≤ a.toInt ∧ a.toInt ≤ 1000) : opT (((0 : Int32) <<< ((12 : Int32) &&& 31)) ||| a) = 0 := by
  unfold opT; rw [wv_op (by decide) ha, if_pos (by decide)]
theorem opT_1 {a : Int32} (ha : 0 ≤ a.toInt ∧ a.toInt ≤ 7) : opT (((1 : Int32) <<< ((12 : Int32) &&& 31)) ||| a) = a + 1 := by
  unfold opT; rw [wv_op (by decide) (by omega), wv_ar (by decide) (by omega), if_neg (by decide), if_pos (by decide)]
theorem opT_b {o a : Int32} (ho : 2 ≤ o.toInt ∧ o.toInt ≤ 8) (ha : 0 ≤ a.toInt ∧ a.toInt ≤ 1000) : (opT ((o <<< ((12 : Int32) &&& 31)) ||| a)).toInt = o.toInt + 18 := by
  unfold opT
  rw [wv_op (by omega) ha, if_neg (by omega), if_neg (by omega), if_pos (by omega), if_neg (by omega)]
  exact g5_iadd rfl (by decide) (by omega) (by omega)
theorem opT_9 {a : Int32} (ha : 0 ≤ a.toInt ∧ a.toInt ≤ 1000) : opT (((9 : Int32) <<< ((12 : Int32) &&& 31)) ||| a) = 27 := by
  unfold opT; rw [wv_op (by decide) ha, if_neg (by decide), if_neg (by decide), if_neg (by decide), if_pos (by decide)]
theorem opT_12 {a : Int32} (ha : 0 ≤ a.toInt ∧ a.toInt ≤ 1000) : opT (((12 : Int32) <<< ((12 : Int32) &&& 31)) ||| a) = 28 := by
  unfold opT; rw [wv_op (by decide) ha, if_neg (by decide), if_neg (by decide), if_neg (by decide), if_neg (by decide), if_neg (by decide), if_neg (by decide)]
theorem opT_11 {a : Int32} (ha : 0 ≤ a.toInt ∧ a.toInt ≤ 1000) : opT (((11 : Int32) <<< ((12 : Int32) &&& 31)) ||| a) = 29 := by
  unfold opT; rw [wv_op (by decide) ha, if_neg (by decide), if_neg (by decide), if_neg (by decide), if_neg (by decide), if_neg (by decide), if_pos (by decide)]
theorem opC_em : opC (upd rc l.toNatClampNeg v) l.toInt.toNat = opT v := by
  show opT (upd rc l.toInt.toNat v l.toInt.toNat) = _
  rw [upd_eq]
theorem arC_em : arC (upd rc l.toNatClampNeg v) l.toInt.toNat = v &&& 4095 := by
  show upd rc l.toInt.toNat v l.toInt.toNat &&& 4095 = _
  rw [upd_eq]
theorem mcc_num {a : Int32} (h0 : 0 ≤ l.toInt) (e : l'.toInt = l.toInt + 1) (ha : 0 ≤ a.toInt ∧ a.toInt ≤ 1000) : MCC (upd rc l.toNatClampNeg (((0 : Int32) <<< ((12 : Int32) &&& 31)) ||| a)) l.toInt.toNat l'.toInt.toNat (lfS 300 a) := by
  rw [show l'.toInt.toNat = l.toInt.toNat + 1 by omega]
  exact mc_leaf (Or.inl ⟨rfl, by rw [opC_em, opT_0 ha]; decide, by rw [arC_em, wv_ar (by decide) ha]⟩)
theorem mcc_word {a : Int32} {k : Int} {n : Int32} (h0 : 0 ≤ l.toInt) (e : l'.toInt = l.toInt + 1) (ha : 0 ≤ a.toInt ∧ a.toInt ≤ 7) (hk : k = 264 + a.toInt) : MCC (upd rc l.toNatClampNeg (((1 : Int32) <<< ((12 : Int32) &&& 31)) ||| a)) l.toInt.toNat l'.toInt.toNat (lfS k n) := by
  rw [show l'.toInt.toNat = l.toInt.toNat + 1 by omega]
  exact mc_leaf (Or.inr ⟨by omega, by omega, by rw [opC_em, opT_1 ha, g5_iadd (a := a.toInt) (b := 1) rfl (by decide) (by omega) (by omega)]; omega⟩)
theorem mcc_bin {o : Int32} {a m : Nat} {x y : DS} (h0 : 0 ≤ l.toInt) (e : l'.toInt = l.toInt + 1) (hx : MCC rc a m x) (hy : MCC rc m l.toInt.toNat y) (ho : 2 ≤ o.toInt ∧ o.toInt ≤ 8) : MCC (upd rc l.toNatClampNeg ((o <<< ((12 : Int32) &&& 31)) ||| 0)) a l'.toInt.toNat (bS (o.toInt + 18) x y) := by
  rw [show l'.toInt.toNat = l.toInt.toNat + 1 by omega]
  have z := hy.1
  exact mc_bin (mcc_k hx (kcc_em h0) (by omega)) (mcc_k hy (kcc_em h0) (by omega)) (by rw [opC_em]; exact opT_b ho (by decide)) (by omega) (by omega)
theorem mcc_not {a : Nat} {x : DS} (h0 : 0 ≤ l.toInt) (e : l'.toInt = l.toInt + 1) (hx : MCC rc a l.toInt.toNat x) : MCC (upd rc l.toNatClampNeg (((9 : Int32) <<< ((12 : Int32) &&& 31)) ||| 0)) a l'.toInt.toNat (nS x) := by
  rw [show l'.toInt.toNat = l.toInt.toNat + 1 by omega]
  exact mc_not (mcc_k hx (kcc_em h0) (by omega)) (by rw [opC_em, opT_9 (by decide)]; decide)
end EMIT
/-- a jump's place is told -/
theorem or_val {o l : Int32} : (((o <<< ((12 : Int32) &&& 31)) ||| 0) ||| l) = ((o <<< ((12 : Int32) &&& 31)) ||| l) := by rw [Int32.or_zero]
theorem mcc_jmp {rc : Nat → Int32} {a : Nat} {j l o : Int32} {x y : DS} (hj : rc j.toNatClampNeg = ((o <<< ((12 : Int32) &&& 31)) ||| 0)) (h0 : 0 ≤ j.toInt) (hx : MCC rc a j.toInt.toNat x) (hy : MCC rc (j.toInt.toNat + 1) l.toInt.toNat y) (hl : 0 ≤ l.toInt ∧ l.toInt ≤ 400) (ho : o = 11 ∨ o = 12) (h01 : is01 x) : MCC (upd rc j.toNatClampNeg (rc j.toNatClampNeg ||| l)) a l.toInt.toNat (if o = 12 then aT x y else oT x y) := by
  have cg : ∀ k : Nat, k ≠ j.toInt.toNat → opC (upd rc j.toNatClampNeg (rc j.toNatClampNeg ||| l)) k = opC rc k ∧ arC (upd rc j.toNatClampNeg (rc j.toNatClampNeg ||| l)) k = arC rc k := fun k hk => by
    have e : upd rc j.toNatClampNeg (rc j.toNatClampNeg ||| l) k = rc k := upd_ne hk
    unfold opC arC
    rw [e]; exact ⟨rfl, rfl⟩
  have hx2 := mc_congr hx (fun k _ h2 => cg k (by omega))
  have hy2 := mc_congr hy (fun k h1 _ => cg k (by omega))
  have e1 : opC (upd rc j.toNatClampNeg (rc j.toNatClampNeg ||| l)) j.toInt.toNat = opT ((o <<< ((12 : Int32) &&& 31)) ||| l) := by rw [opC_em, hj, or_val]
  have e2 : (arC (upd rc j.toNatClampNeg (rc j.toNatClampNeg ||| l)) j.toInt.toNat).toInt = (l.toInt.toNat : Int) := by
    rw [arC_em, hj, or_val]
    rcases ho with w | w
    · rw [w, wv_ar (by decide) (by omega)]; omega
    · rw [w, wv_ar (by decide) (by omega)]; omega
  rcases ho with w | w
  · subst w
    rw [if_neg (by decide)]
    exact mc_or hx2 (by rw [e1, opT_11 (by omega)]; decide) e2 hy2 h01
  · subst w
    rw [if_pos rfl]
    exact mc_and hx2 (by rw [e1, opT_12 (by omega)]; decide) e2 hy2 h01
theorem opT_10 {a : Int32} (ha : 0 ≤ a.toInt ∧ a.toInt ≤ 1000) : opT (((10 : Int32) <<< ((12 : Int32) &&& 31)) ||| a) = 30 := by
  unfold opT; rw [wv_op (by decide) ha, if_neg (by decide), if_neg (by decide), if_neg (by decide), if_neg (by decide), if_pos (by decide)]
theorem opT_20 {o a : Int32} (ho : 2 ≤ o.toInt ∧ o.toInt ≤ 12) (ha : 0 ≤ a.toInt ∧ a.toInt ≤ 1000) : 20 ≤ (opT ((o <<< ((12 : Int32) &&& 31)) ||| a)).toInt := by
  by_cases q : o.toInt ≤ 8
  · rw [opT_b ⟨ho.1, q⟩ ha]; omega
  · unfold opT
    rw [wv_op (by omega) ha, if_neg (by omega), if_neg (by omega), if_neg (by omega)]
    split
    · decide
    · split
      · decide
      · split <;> decide
/-- a jump's place told leaves the sign as it is -/
theorem opT_or {w l : Int32} (h1 : (w >>> ((12 : Int32) &&& 31)).toInt ≠ 1) (hl : 0 ≤ l.toInt ∧ l.toInt ≤ 400) : opT (w ||| l) = opT w := by
  have e : ((w ||| l) >>> ((12 : Int32) &&& 31)) = (w >>> ((12 : Int32) &&& 31)) := by
    rw [g_orsh, show (l >>> ((12 : Int32) &&& 31)) = 0 from Int32.toInt_inj.mp (by rw [g_sh12]; have z : (0 : Int32).toInt = 0 := by decide
                                                                                   omega), Int32.or_zero]
  unfold opT
  rw [e, if_neg h1, if_neg h1]
/-! the class's reader by rule -/
def loS (kd : Nat → Int) (nm : Nat → Int32) (d : Nat) : Option (Nat → Nat → Nat × Nat × Option DS) := if d < 8 then some (rdP kd nm (7 - d)).1 else none
def loT (kd : Nat → Int) (nm : Nat → Int32) (d : Nat) : Option (Nat → Nat → Nat × Nat × Option DS) := if d < 8 then some (rdP kd nm (7 - d)).2 else none
theorem rd_S {kd : Nat → Int} {nm : Nat → Int32} {d : Nat} (h : d ≤ 8) : (rdP kd nm (8 - d)).1 = sumP (loS kd nm d) kd nm := by
  by_cases q : d < 8
  · unfold loS
    rw [if_pos q, show 8 - d = (7 - d) + 1 by omega]; rfl
  · unfold loS
    rw [if_neg q, show 8 - d = 0 by omega]; rfl
theorem rd_T {kd : Nat → Int} {nm : Nat → Int32} {d : Nat} (h : d ≤ 8) : (rdP kd nm (8 - d)).2 = testP (sumP (loS kd nm d) kd nm) (loT kd nm d) kd := by
  by_cases q : d < 8
  · unfold loS loT
    rw [if_pos q, if_pos q, show 8 - d = (7 - d) + 1 by omega]; rfl
  · unfold loS loT
    rw [if_neg q, if_neg q, show 8 - d = 0 by omega]; rfl
def TKR (kd nm x : Nat → Int32) (n T : Nat) : Prop := (∀ i : Nat, i < T → (kd i).toInt = KDT x n i ∧ nm i = NMT x n i ∧ pT x n i < n) ∧ (kd T).toInt = 302 ∧ pT x n T = n ∧ T ≤ 400
theorem tkr_of {kd nm pl x : Nat → Int32} {n T : Nat} (hn : n ≤ 400) (h : TKA kd nm pl x n T) (k : TKE kd pl x n T) : TKR kd nm x n T := by
  refine ⟨fun i hi => ⟨(h i hi).1, (h i hi).2.1, k.2.2.2 i hi⟩, k.2.1, k.1, ?_⟩
  by_cases q : T = 0
  · omega
  · have z := pT_ge (x := x) (n := n) (T - 1) (k.2.2.2 (T - 1) (by omega))
    have y := k.2.2.2 (T - 1) (by omega)
    omega
theorem tkr_end {kd nm x : Nat → Int32} {n T : Nat} (h : TKR kd nm x n T) : KDT x n T = 302 := by
  unfold KDT
  exact kdT_end (by have z := h.2.2.1; omega)
theorem tkr_kd {kd nm x : Nat → Int32} {n T i : Nat} (h : TKR kd nm x n T) (hi : i ≤ T) : (kd i).toInt = KDT x n i := by
  by_cases q : i < T
  · exact (h.1 i q).1
  · rw [show i = T by omega, h.2.1, tkr_end h]
theorem tkr_lt {kd nm x : Nat → Int32} {n T i : Nat} (h : TKR kd nm x n T) (hi : i ≤ T) (hk : KDT x n i ≠ 302) : i < T ∧ nm i = NMT x n i := by
  have q : i < T := Nat.lt_of_not_le (fun z => hk (by rw [show i = T by omega]; exact tkr_end h))
  exact ⟨q, (h.1 i q).2.1⟩
/-- the class's kinds at an int -/
theorem tkr_at {kd nm x : Nat → Int32} {n T : Nat} {a : Int32} (h : TKR kd nm x n T) (h0 : 0 ≤ a.toInt) (h1 : a.toInt ≤ (T : Int)) : (kd a.toNatClampNeg).toInt = KDT x n a.toInt.toNat := tkr_kd (i := a.toInt.toNat) h (by omega)
section PARTC
variable {kd : Nat → Int} {nm : Nat → Int32} {D a p b q : Nat} {d : DS}
theorem pc_deep (h : kd a = 91) (hd : ¬ D < 8) : partP (loS kd nm D) kd nm a p = (a, p, none) := by
  unfold partP loS
  rw [if_pos h, if_neg hd]
theorem pc_leaf (h : kd a ≠ 91) (hk : (kd a = 300 ∨ (264 ≤ kd a ∧ kd a < 272)) ∧ p < 50) : partP (loS kd nm D) kd nm a p = (a + 1, p + 1, some (lfS (kd a) (nm a))) := by
  unfold partP
  rw [if_neg h, if_pos hk]
theorem pc_no (h : kd a ≠ 91) (hk : ¬ ((kd a = 300 ∨ (264 ≤ kd a ∧ kd a < 272)) ∧ p < 50)) : partP (loS kd nm D) kd nm a p = (a, p, none) := by
  unfold partP
  rw [if_neg h, if_neg hk]
end PARTC
theorem lvC_S {rc : Nat → Int32} {n : Nat} : lvC rc (n + 1) = lvC rc n + (if (opT (rc n)).toInt < 20 then 1 else 0) := by
  show lvM (opC rc) 0 n + (if (opC rc (0 + n)).toInt < 20 then 1 else 0) = _
  rw [Nat.zero_add]; rfl
theorem lvC_em0 {rc : Nat → Int32} {l l' v : Int32} (h0 : 0 ≤ l.toInt) (e : l'.toInt = l.toInt + 1) (hv : 20 ≤ (opT v).toInt) : lvC (upd rc l.toNatClampNeg v) l'.toInt.toNat = lvC rc l.toInt.toNat := by
  rw [show l'.toInt.toNat = l.toInt.toNat + 1 by omega, lvC_S]
  show lvC (upd rc l.toInt.toNat v) l.toInt.toNat + (if (opT (upd rc l.toInt.toNat v l.toInt.toNat)).toInt < 20 then 1 else 0) = _
  rw [upd_eq, if_neg (by omega), lvC_congr (rc := rc) _ (fun j hj => by rw [upd_ne (by omega)])]
  rfl
theorem lvC_em1 {rc : Nat → Int32} {l l' v : Int32} (h0 : 0 ≤ l.toInt) (e : l'.toInt = l.toInt + 1) (hv : (opT v).toInt < 20) : lvC (upd rc l.toNatClampNeg v) l'.toInt.toNat = lvC rc l.toInt.toNat + 1 := by
  rw [show l'.toInt.toNat = l.toInt.toNat + 1 by omega, lvC_S]
  show lvC (upd rc l.toInt.toNat v) l.toInt.toNat + (if (opT (upd rc l.toInt.toNat v l.toInt.toNat)).toInt < 20 then 1 else 0) = _
  rw [upd_eq, if_pos hv, lvC_congr (rc := rc) _ (fun j hj => by rw [upd_ne (by omega)])]
theorem lvC_jmp {rc : Nat → Int32} {j l : Int32} {n : Nat} (hj : (rc j.toNatClampNeg >>> ((12 : Int32) &&& 31)).toInt ≠ 1) (hl : 0 ≤ l.toInt ∧ l.toInt ≤ 400) : lvC (upd rc j.toNatClampNeg (rc j.toNatClampNeg ||| l)) n = lvC rc n := by
  refine lvC_congr n (fun k _ => ?_)
  by_cases q : k = j.toNatClampNeg
  · rw [q, upd_eq]; exact opT_or hj hl
  · rw [upd_ne q]
/-! a sum -/
/-- the sum so far: what waits -/
def WSC (rc : Nat → Int32) (e0 l wt : Int32) (w : Option (Int × DS)) (d : DS) : Prop :=
  match w with
  | none => wt.toInt = -1 ∧ MCC rc e0.toInt.toNat l.toInt.toNat d
  | some x => (2 ≤ wt.toInt ∧ wt.toInt ≤ 3 ∧ x.1 = wt.toInt + 18) ∧ ∃ m : Nat, MCC rc e0.toInt.toNat m x.2 ∧ MCC rc m l.toInt.toNat d
def SLC (pt : Nat → Nat → Nat × Nat × Option DS) (kd : Nat → Int) (F : Nat × Nat × Option DS) (rc0 rc : Nat → Int32) (e0 l wt a p i : Int32) : Prop := ∃ (w : Option (Int × DS)) (d : DS), F = sumL pt kd (400 - i.toInt).toNat a.toInt.toNat p.toInt.toNat w d ∧ WSC rc e0 l wt w d ∧ KCC rc0 rc e0.toInt ∧ lvC rc l.toInt.toNat = p.toInt.toNat
theorem slc_0 {lo : Option (Nat → Nat → Nat × Nat × Option DS)} {kd : Nat → Int} {nm : Nat → Int32} {rc0 rc : Nat → Int32} {a0 p0 e0 l wt a p i : Int32} {d : DS} (e : partP lo kd nm a0.toInt.toNat p0.toInt.toNat = (a.toInt.toNat, p.toInt.toNat, some d)) (hi : i.toInt = 0) (hw : wt.toInt = -1) (m : MCC rc e0.toInt.toNat l.toInt.toNat d) (k : KCC rc0 rc e0.toInt) (v : lvC rc l.toInt.toNat = p.toInt.toNat) : SLC (partP lo kd nm) kd (sumP lo kd nm a0.toInt.toNat p0.toInt.toNat) rc0 rc e0 l wt a p i := by
  refine ⟨none, d, ?_, ⟨hw, m⟩, k, v⟩
  unfold sumP
  rw [e, show (400 - i.toInt).toNat = 400 by omega]; rfl
theorem sumP_0 {lo : Option (Nat → Nat → Nat × Nat × Option DS)} {kd : Nat → Int} {nm : Nat → Int32} {a0 p0 b q : Nat} (e : partP lo kd nm a0 p0 = (b, q, none)) : sumP lo kd nm a0 p0 = (b, q, none) := by
  unfold sumP; rw [e]; rfl
/-- what waits is written down -/
theorem wsc_em {rc : Nat → Int32} {e0 l l' wt : Int32} {w : Option (Int × DS)} {d : DS} (h : WSC rc e0 l wt w d) (hw : wt.toInt ≠ -1) (h0 : 0 ≤ l.toInt) (e : l'.toInt = l.toInt + 1) : MCC (upd rc l.toNatClampNeg ((wt <<< ((12 : Int32) &&& 31)) ||| 0)) e0.toInt.toNat l'.toInt.toNat (pnd w d) := by
  cases w with
  | none => exact absurd h.1 hw
  | some x =>
    obtain ⟨h1, m, h2, h3⟩ := h
    have z := mcc_bin h0 e h2 h3 (o := wt) (by omega)
    show MCC _ _ _ (bS x.1 x.2 d)
    rw [h1.2.2]; exact z
theorem wsc_no {rc : Nat → Int32} {e0 l wt : Int32} {w : Option (Int × DS)} {d : DS} (h : WSC rc e0 l wt w d) (hw : wt.toInt = -1) : MCC rc e0.toInt.toNat l.toInt.toNat (pnd w d) := by
  cases w with
  | none => exact h.2
  | some x => have z := h.1; omega
section SUMC
variable {pt : Nat → Nat → Nat × Nat × Option DS} {kd : Nat → Int} {F : Nat × Nat × Option DS} {rc0 rc rc1 rc2 : Nat → Int32} {e0 l l1 l2 wt wt' a a1 a2 p p2 i i' : Int32}
theorem slc_un (w : Option (Int × DS)) (d : DS) (h0 : 0 ≤ i.toInt) (hi : i.toInt < 400) : sumL pt kd (400 - i.toInt).toNat a.toInt.toNat p.toInt.toNat w d = if opM (kd a.toInt.toNat) = 0 then (a.toInt.toNat, p.toInt.toNat, some (pnd w d)) else rb (pt (a.toInt.toNat + 1) p.toInt.toNat) fun b q e => if opM (kd a.toInt.toNat) ≤ 21 then sumL pt kd (400 - (i.toInt + 1)).toNat b q (some (opM (kd a.toInt.toNat), pnd w d)) e else sumL pt kd (400 - (i.toInt + 1)).toNat b q w (bS (opM (kd a.toInt.toNat)) d e) := by
  rw [show (400 - i.toInt).toNat = (400 - (i.toInt + 1)).toNat + 1 by omega]; rfl
/-- no sign of a sum: it ends; what waits was written down -/
theorem slc_end (h : SLC pt kd F rc0 rc e0 l wt a p i) (h0 : 0 ≤ i.toInt) (hi : i.toInt < 400) (ho : opM (kd a.toInt.toNat) = 0) : ∃ (w : Option (Int × DS)) (d : DS), F = (a.toInt.toNat, p.toInt.toNat, some (pnd w d)) ∧ WSC rc e0 l wt w d ∧ KCC rc0 rc e0.toInt ∧ lvC rc l.toInt.toNat = p.toInt.toNat := by
  obtain ⟨w, d, h1, h2, h3, h4⟩ := h
  rw [slc_un w d h0 hi, if_pos ho] at h1
  exact ⟨w, d, h1, h2, h3, h4⟩
theorem slc_out (h : SLC pt kd F rc0 rc e0 l wt a p i) (hi : 400 ≤ i.toInt) : F = (a.toInt.toNat, p.toInt.toNat, none) := by
  obtain ⟨w, d, h1, _⟩ := h
  rw [show (400 - i.toInt).toNat = 0 by omega] at h1
  exact h1
theorem slc_bad {b q : Nat} (h : SLC pt kd F rc0 rc e0 l wt a p i) (h0 : 0 ≤ i.toInt) (hi : i.toInt < 400) (ho : opM (kd a.toInt.toNat) ≠ 0) (e : pt (a.toInt.toNat + 1) p.toInt.toNat = (b, q, none)) : F = (b, q, none) := by
  obtain ⟨w, d, h1, _⟩ := h
  rw [slc_un w d h0 hi, if_neg ho, e] at h1
  exact h1
/-- a sign that waits: what waited is written down, the next part is read -/
theorem slc_add {x : DS} (h : SLC pt kd F rc0 rc e0 l wt a p i) (h0 : 0 ≤ i.toInt) (hi : i.toInt < 400) (he : 0 ≤ e0.toInt ∧ e0.toInt ≤ l.toInt) (ho : opM (kd a.toInt.toNat) = wt'.toInt + 18) (hw : 2 ≤ wt'.toInt ∧ wt'.toInt ≤ 3) (hem : (wt.toInt = -1 ∧ rc1 = rc ∧ l1 = l) ∨ (wt.toInt ≠ -1 ∧ rc1 = upd rc l.toNatClampNeg ((wt <<< ((12 : Int32) &&& 31)) ||| 0) ∧ l1.toInt = l.toInt + 1)) (e : pt (a.toInt.toNat + 1) p.toInt.toNat = (a2.toInt.toNat, p2.toInt.toNat, some x)) (k : KCC rc1 rc2 l1.toInt) (m : MCC rc2 l1.toInt.toNat l2.toInt.toNat x) (v : lvC rc2 l2.toInt.toNat = p2.toInt.toNat) (ei : i'.toInt = i.toInt + 1) : SLC pt kd F rc0 rc2 e0 l2 wt' a2 p2 i' := by
  obtain ⟨w, d, h1, h2, h3, h4⟩ := h
  rw [slc_un w d h0 hi, if_neg (by omega), e] at h1
  have h1 : F = if opM (kd a.toInt.toNat) ≤ 21 then sumL pt kd (400 - (i.toInt + 1)).toNat a2.toInt.toNat p2.toInt.toNat (some (opM (kd a.toInt.toNat), pnd w d)) x else _ := h1
  rw [if_pos (by omega)] at h1
  have hp : MCC rc1 e0.toInt.toNat l1.toInt.toNat (pnd w d) ∧ KCC rc0 rc1 e0.toInt ∧ l.toInt ≤ l1.toInt := by
    rcases hem with ⟨z1, z2, z3⟩ | ⟨z1, z2, z3⟩
    · rw [z2, z3]; exact ⟨wsc_no h2 z1, h3, Int.le_refl _⟩
    · rw [z2]
      exact ⟨wsc_em h2 z1 (by omega) z3, kcc_tr h3 (kcc_em (by omega)) (by omega), by omega⟩
  refine ⟨some (opM (kd a.toInt.toNat), pnd w d), x, ?_, ⟨⟨hw.1, hw.2, ho⟩, l1.toInt.toNat, mcc_k hp.1 k (by omega), m⟩, kcc_tr hp.2.1 k (by omega), v⟩
  rw [ei]; exact h1
/-- a sign that binds: the next part is read, the sign written down at once -/
theorem slc_mul {x : DS} {o l3 : Int32} (h : SLC pt kd F rc0 rc e0 l wt a p i) (h0 : 0 ≤ i.toInt) (hi : i.toInt < 400) (he : 0 ≤ e0.toInt ∧ e0.toInt ≤ l.toInt) (ho : opM (kd a.toInt.toNat) = o.toInt + 18) (hw : 4 ≤ o.toInt ∧ o.toInt ≤ 5) (e : pt (a.toInt.toNat + 1) p.toInt.toNat = (a2.toInt.toNat, p2.toInt.toNat, some x)) (k : KCC rc rc2 l.toInt) (m : MCC rc2 l.toInt.toNat l2.toInt.toNat x) (hl : 0 ≤ l2.toInt) (v : lvC rc2 l2.toInt.toNat = p2.toInt.toNat) (e3 : l3.toInt = l2.toInt + 1) (ei : i'.toInt = i.toInt + 1) : SLC pt kd F rc0 (upd rc2 l2.toNatClampNeg ((o <<< ((12 : Int32) &&& 31)) ||| 0)) e0 l3 wt a2 p2 i' := by
  obtain ⟨w, d, h1, h2, h3, h4⟩ := h
  rw [slc_un w d h0 hi, if_neg (by omega), e] at h1
  have h1 : F = if opM (kd a.toInt.toNat) ≤ 21 then _ else sumL pt kd (400 - (i.toInt + 1)).toNat a2.toInt.toNat p2.toInt.toNat w (bS (opM (kd a.toInt.toNat)) d x) := h1
  rw [if_neg (by omega)] at h1
  have zm := m.1
  refine ⟨w, bS (opM (kd a.toInt.toNat)) d x, ?_, ?_, ?_, ?_⟩
  · rw [ei]; exact h1
  · rw [ho]
    cases w with
    | none =>
      obtain ⟨y1, y2⟩ := h2
      exact ⟨y1, mcc_bin hl e3 (mcc_k y2 k (by omega)) m (by omega)⟩
    | some y =>
      obtain ⟨y1, m0, y2, y3⟩ := h2
      have z3 := y3.1
      exact ⟨y1, m0, mcc_k (mcc_k y2 k (by omega)) (kcc_em hl) (by omega), mcc_bin hl e3 (mcc_k y3 k (by omega)) m (by omega)⟩
  · exact kcc_tr (kcc_tr h3 k (by omega)) (kcc_em hl) (by omega)
  · rw [lvC_em0 hl e3 (opT_20 (by omega) (by decide))]; exact v
end SUMC
theorem loS_S {kd : Nat → Int} {nm : Nat → Int32} {d : Nat} (h : d < 8) : loS kd nm d = some (sumP (loS kd nm (d + 1)) kd nm) := by
  have z := rd_S (kd := kd) (nm := nm) (d := d + 1) (by omega)
  rw [show 8 - (d + 1) = 7 - d by omega] at z
  rw [← z]; unfold loS; rw [if_pos h]
theorem loT_S {kd : Nat → Int} {nm : Nat → Int32} {d : Nat} (h : d < 8) : loT kd nm d = some (testP (sumP (loS kd nm (d + 1)) kd nm) (loT kd nm (d + 1)) kd) := by
  have z := rd_T (kd := kd) (nm := nm) (d := d + 1) (by omega)
  rw [show 8 - (d + 1) = 7 - d by omega] at z
  rw [← z]; unfold loT; rw [if_pos h]
/-! in the class's own numbers -/
section OWN
variable {kd : Nat → Int} {nm : Nat → Int32} {D D' a a' b : Int32} {p q : Nat} {d : DS}
def ptF (kd : Nat → Int) (nm : Nat → Int32) (D : Int32) : Nat → Nat → Nat × Nat × Option DS := partP (loS kd nm D.toInt.toNat) kd nm
def smF (kd : Nat → Int) (nm : Nat → Int32) (D : Int32) : Nat → Nat → Nat × Nat × Option DS := sumP (loS kd nm D.toInt.toNat) kd nm
def plF (kd : Nat → Int) (nm : Nat → Int32) (D : Int32) : Nat → Nat → Nat × Nat × Option DS := plainP (smF kd nm D) (loT kd nm D.toInt.toNat) kd
def tsF (kd : Nat → Int) (nm : Nat → Int32) (D : Int32) : Nat → Nat → Nat × Nat × Option DS := testP (smF kd nm D) (loT kd nm D.toInt.toNat) kd
theorem ow_deep (h : kd a.toInt.toNat = 91) (hd : 8 ≤ D.toInt) : ptF kd nm D a.toInt.toNat p = (a.toInt.toNat, p, none) := pc_deep h (by omega)
theorem ow_lo (h0 : 0 ≤ D.toInt) (hd : D.toInt < 8) (e : D'.toInt = D.toInt + 1) : loS kd nm D.toInt.toNat = some (smF kd nm D') ∧ loT kd nm D.toInt.toNat = some (tsF kd nm D') := by
  have e2 : D'.toInt.toNat = D.toInt.toNat + 1 := by omega
  unfold tsF smF
  rw [e2]
  exact ⟨loS_S (by omega), loT_S (by omega)⟩
theorem ow_in0 (h : kd a.toInt.toNat = 91) (h0 : 0 ≤ D.toInt) (hd : D.toInt < 8) (eD : D'.toInt = D.toInt + 1) (h1 : 0 ≤ a.toInt) (ea : a'.toInt = a.toInt + 1) (e : smF kd nm D' a'.toInt.toNat p = (b.toInt.toNat, q, none)) : ptF kd nm D a.toInt.toNat p = (b.toInt.toNat, q, none) := by
  unfold ptF partP
  rw [if_pos h, (ow_lo h0 hd eD).1]
  show rb (smF kd nm D' (a.toInt.toNat + 1) p) _ = _
  rw [show a.toInt.toNat + 1 = a'.toInt.toNat by omega, e]; rfl
theorem ow_inB {b' : Int32} (h : kd a.toInt.toNat = 91) (h0 : 0 ≤ D.toInt) (hd : D.toInt < 8) (eD : D'.toInt = D.toInt + 1) (h1 : 0 ≤ a.toInt) (ea : a'.toInt = a.toInt + 1) (e : smF kd nm D' a'.toInt.toNat p = (b.toInt.toNat, q, some d)) (hb : kd b.toInt.toNat ≠ 93) (eb : b'.toInt = b.toInt) : ptF kd nm D a.toInt.toNat p = (b'.toInt.toNat, q, none) := by
  rw [eb]
  unfold ptF partP
  rw [if_pos h, (ow_lo h0 hd eD).1]
  show rb (smF kd nm D' (a.toInt.toNat + 1) p) _ = _
  rw [show a.toInt.toNat + 1 = a'.toInt.toNat by omega, e]
  show (if kd b.toInt.toNat = 93 then _ else _) = _
  rw [if_neg hb]
theorem ow_in1 {b' : Int32} (h : kd a.toInt.toNat = 91) (h0 : 0 ≤ D.toInt) (hd : D.toInt < 8) (eD : D'.toInt = D.toInt + 1) (h1 : 0 ≤ a.toInt) (ea : a'.toInt = a.toInt + 1) (e : smF kd nm D' a'.toInt.toNat p = (b.toInt.toNat, q, some d)) (hb : kd b.toInt.toNat = 93) (hb0 : 0 ≤ b.toInt) (eb : b'.toInt = b.toInt + 1) : ptF kd nm D a.toInt.toNat p = (b'.toInt.toNat, q, some d) := by
  unfold ptF partP
  rw [if_pos h, (ow_lo h0 hd eD).1]
  show rb (smF kd nm D' (a.toInt.toNat + 1) p) _ = _
  rw [show a.toInt.toNat + 1 = a'.toInt.toNat by omega, e]
  show (if kd b.toInt.toNat = 93 then _ else _) = _
  rw [if_pos hb, show b'.toInt.toNat = b.toInt.toNat + 1 by omega]
theorem ow_leaf {P P' : Int32} (h : kd a.toInt.toNat ≠ 91) (hk : kd a.toInt.toNat = 300 ∨ (264 ≤ kd a.toInt.toNat ∧ kd a.toInt.toNat < 272)) (hp : 0 ≤ P.toInt ∧ P.toInt < 50) (h1 : 0 ≤ a.toInt) (ea : a'.toInt = a.toInt + 1) (ep : P'.toInt = P.toInt + 1) : ptF kd nm D a.toInt.toNat P.toInt.toNat = (a'.toInt.toNat, P'.toInt.toNat, some (lfS (kd a.toInt.toNat) (nm a.toInt.toNat))) := by
  rw [show a'.toInt.toNat = a.toInt.toNat + 1 by omega, show P'.toInt.toNat = P.toInt.toNat + 1 by omega]
  exact pc_leaf h ⟨hk, by omega⟩
theorem ow_no {P : Int32} (h : kd a.toInt.toNat ≠ 91) (hk : ¬ (kd a.toInt.toNat = 300 ∨ (264 ≤ kd a.toInt.toNat ∧ kd a.toInt.toNat < 272)) ∨ 50 ≤ P.toInt) : ptF kd nm D a.toInt.toNat P.toInt.toNat = (a.toInt.toNat, P.toInt.toNat, none) := pc_no h (fun z => by
  rcases hk with y | y
  · exact y z.1
  · have z2 := z.2
    omega)
end OWN
theorem tkr_ltI {kd nm x : Nat → Int32} {n T : Nat} {a : Int32} {k : Int} (h : TKR kd nm x n T) (h0 : 0 ≤ a.toInt) (h1 : a.toInt ≤ (T : Int)) (e : (kd a.toNatClampNeg).toInt = k) (hk : k ≠ 302) : a.toInt < (T : Int) := by
  have z := tkr_at h h0 h1
  have y := tkr_lt (i := a.toInt.toNat) h (by omega) (by rw [← z, e]; exact hk)
  omega
theorem tkr_nm {kd nm x : Nat → Int32} {n T : Nat} {a : Int32} (h : TKR kd nm x n T) (h0 : 0 ≤ a.toInt) (h1 : a.toInt < (T : Int)) : nm a.toNatClampNeg = NMT x n a.toInt.toNat := (h.1 a.toInt.toNat (by omega)).2.1
theorem kdT_rg {x : Nat → Int32} {n i : Nat} (hb : byOK x) : 0 ≤ kdT x n i ∧ kdT x n i ≤ 302 := by
  unfold kdT
  have z := hb i
  have w := wdT_rg (x := x) (i := i) (e := enT x n i)
  split
  · split
    · split <;> omega
    · split
      · split <;> omega
      · omega
  · omega
theorem tkr_rg {kd nm x : Nat → Int32} {n T : Nat} {a : Int32} (hb : byOK x) (h : TKR kd nm x n T) (h0 : 0 ≤ a.toInt) (h1 : a.toInt ≤ (T : Int)) : 0 ≤ (kd a.toNatClampNeg).toInt ∧ (kd a.toNatClampNeg).toInt ≤ 302 := by
  rw [tkr_at h h0 h1]; exact kdT_rg hb
theorem num_rg {x : Nat → Int32} {n k : Nat} (h : KDT x n k = 300) (hb : byOK x) : 0 ≤ (NMT x n k).toInt ∧ (NMT x n k).toInt ≤ 1000 := by
  unfold KDT at h
  unfold NMT nmT
  by_cases hi : pT x n k < n
  · by_cases hd : bDg (x (pT x n k)) = true
    · rw [if_pos hd]
      rw [kdT_dg hi hd] at h
      have er := enT_rg (x := x) hi
      have dg := word_dg hi hd
      have nd := nmb_dc (x := x) (i := pT x n k) (enT x n (pT x n k) - pT x n k) 0 0 (fun j a b => dg j a (by omega)) (by decide) (by decide) (fun _ => rfl) (fun h => by
        have h : 1000 < (0 : Int) := h
        omega)
      rw [Nat.zero_add, Nat.add_zero] at nd
      have g := dcF_ge (x := x) (i := pT x n k) (enT x n (pT x n k) - pT x n k) (fun j a b => dg j a (by omega))
      split at h
      · rename_i q
        refine ⟨?_, q⟩
        by_cases y : dcF x (pT x n k) (enT x n (pT x n k) - pT x n k) ≤ 1000
        · rw [nd.1 y]; exact g
        · have u := nd.2 (by omega); omega
      · omega
    · rw [if_neg hd]; decide
  · rw [kdT_end hi] at h; omega
/-- a part that is a number or a word, as the class writes it down -/
theorem mcc_numK {rc : Nat → Int32} {l l' a : Int32} {k : Int} {n : Int32} (h0 : 0 ≤ l.toInt) (e : l'.toInt = l.toInt + 1) (hk : k = 300) (hn : a = n) (ha : 0 ≤ n.toInt ∧ n.toInt ≤ 1000) : MCC (upd rc l.toNatClampNeg (((0 : Int32) <<< ((12 : Int32) &&& 31)) ||| a)) l.toInt.toNat l'.toInt.toNat (lfS k n) := by
  subst hn; subst hk
  exact mcc_num h0 e ha
theorem lv_leaf {rc : Nat → Int32} {l l' v P P' : Int32} (h : lvC rc l.toInt.toNat = P.toInt.toNat) (h0 : 0 ≤ l.toInt) (e : l'.toInt = l.toInt + 1) (hv : (opT v).toInt < 20) (hp : 0 ≤ P.toInt) (ep : P'.toInt = P.toInt + 1) : lvC (upd rc l.toNatClampNeg v) l'.toInt.toNat = P'.toInt.toNat := by
  rw [lvC_em1 h0 e hv, h]; omega
/-- "not" and "not" -/
def NLC (kd : Nat → Int) (a0 a u i : Int32) : Prop := notL kd 400 a0.toInt.toNat false = notL kd (400 - i.toInt).toNat a.toInt.toNat (decide (u.toInt = 1))
theorem nlc_0 {kd : Nat → Int} {a u i : Int32} (hu : u.toInt = 0) (hi : i.toInt = 0) : NLC kd a a u i := by
  unfold NLC
  rw [hi, hu]; rfl
theorem nlc_S {kd : Nat → Int} {a0 a a' u u' i i' : Int32} (h : NLC kd a0 a u i) (h0 : 0 ≤ i.toInt ∧ i.toInt < 400) (hk : kd a.toInt.toNat = 263) (ha : 0 ≤ a.toInt) (ea : a'.toInt = a.toInt + 1) (ei : i'.toInt = i.toInt + 1) (eu : (u.toInt = 1 ∧ u'.toInt = 0) ∨ (u.toInt = 0 ∧ u'.toInt = 1)) : NLC kd a0 a' u' i' := by
  unfold NLC at h ⊢
  rw [h, show (400 - i.toInt).toNat = (400 - i'.toInt).toNat + 1 by omega]
  show (if kd a.toInt.toNat = 263 then notL kd (400 - i'.toInt).toNat (a.toInt.toNat + 1) (!(decide (u.toInt = 1))) else _) = _
  rw [if_pos hk, show a.toInt.toNat + 1 = a'.toInt.toNat by omega]
  rcases eu with ⟨x, y⟩ | ⟨x, y⟩
  · rw [x, y]; rfl
  · rw [x, y]; rfl
theorem nlc_E {kd : Nat → Int} {a0 a a' u i : Int32} (h : NLC kd a0 a u i) (h0 : 0 ≤ i.toInt) (hx : 400 ≤ i.toInt ∨ kd a.toInt.toNat ≠ 263) (ea : a'.toInt = a.toInt) : notL kd 400 a0.toInt.toNat false = (a'.toInt.toNat, decide (u.toInt = 1)) := by
  unfold NLC at h
  rw [h, ea]
  cases z : (400 - i.toInt).toNat with
  | zero => rfl
  | succ n =>
    show (if kd a.toInt.toNat = 263 then _ else _) = _
    rw [if_neg (by
      rcases hx with y | y
      · omega
      · exact y)]
/-! the class's reader: what is no sum -/
section PLC
variable {kd : Nat → Int} {nm : Nat → Int32} {D D' a b c c' c2 : Int32} {p q q2 : Nat} {d l r : DS} {t : Bool}
theorem pl_deep (nl : notL kd 400 a.toInt.toNat false = (b.toInt.toNat, t)) (h : kd b.toInt.toNat = 40) (hd : 8 ≤ D.toInt) : plF kd nm D a.toInt.toNat p = (b.toInt.toNat, p, none) := by
  unfold plF plainP
  rw [nl]
  show (if kd b.toInt.toNat = 40 then _ else _) = _
  rw [if_pos h]
  unfold loT
  rw [if_neg (by omega)]
theorem pl_br (nl : notL kd 400 a.toInt.toNat false = (b.toInt.toNat, t)) (h : kd b.toInt.toNat = 40) (h0 : 0 ≤ D.toInt) (hd : D.toInt < 8) (eD : D'.toInt = D.toInt + 1) (hb : 0 ≤ b.toInt) (ec : c.toInt = b.toInt + 1) : plF kd nm D a.toInt.toNat p = rb (tsF kd nm D' c.toInt.toNat p) fun e q d => if kd e = 41 then (e + 1, q, some (nT t d)) else (e, q, none) := by
  unfold plF plainP
  rw [nl]
  show (if kd b.toInt.toNat = 40 then _ else _) = _
  rw [if_pos h, (ow_lo h0 hd eD).2]
  show rb (tsF kd nm D' (b.toInt.toNat + 1) p) _ = _
  rw [show b.toInt.toNat + 1 = c.toInt.toNat by omega]
theorem pl_in0 (nl : notL kd 400 a.toInt.toNat false = (b.toInt.toNat, t)) (h : kd b.toInt.toNat = 40) (h0 : 0 ≤ D.toInt) (hd : D.toInt < 8) (eD : D'.toInt = D.toInt + 1) (hb : 0 ≤ b.toInt) (ec : c.toInt = b.toInt + 1) (e : tsF kd nm D' c.toInt.toNat p = (c2.toInt.toNat, q, none)) : plF kd nm D a.toInt.toNat p = (c2.toInt.toNat, q, none) := by
  rw [pl_br nl h h0 hd eD hb ec, e]; rfl
theorem pl_inB (nl : notL kd 400 a.toInt.toNat false = (b.toInt.toNat, t)) (h : kd b.toInt.toNat = 40) (h0 : 0 ≤ D.toInt) (hd : D.toInt < 8) (eD : D'.toInt = D.toInt + 1) (hb : 0 ≤ b.toInt) (ec : c.toInt = b.toInt + 1) (e : tsF kd nm D' c.toInt.toNat p = (c2.toInt.toNat, q, some d)) (hk : kd c2.toInt.toNat ≠ 41) (e2 : c'.toInt = c2.toInt) : plF kd nm D a.toInt.toNat p = (c'.toInt.toNat, q, none) := by
  rw [pl_br nl h h0 hd eD hb ec, e, e2]
  show (if kd c2.toInt.toNat = 41 then _ else _) = _
  rw [if_neg hk]
theorem pl_in1 (nl : notL kd 400 a.toInt.toNat false = (b.toInt.toNat, t)) (h : kd b.toInt.toNat = 40) (h0 : 0 ≤ D.toInt) (hd : D.toInt < 8) (eD : D'.toInt = D.toInt + 1) (hb : 0 ≤ b.toInt) (ec : c.toInt = b.toInt + 1) (e : tsF kd nm D' c.toInt.toNat p = (c2.toInt.toNat, q, some d)) (hk : kd c2.toInt.toNat = 41) (hc : 0 ≤ c2.toInt) (e2 : c'.toInt = c2.toInt + 1) : plF kd nm D a.toInt.toNat p = (c'.toInt.toNat, q, some (nT t d)) := by
  rw [pl_br nl h h0 hd eD hb ec, e]
  show (if kd c2.toInt.toNat = 41 then _ else _) = _
  rw [if_pos hk, show c'.toInt.toNat = c2.toInt.toNat + 1 by omega]
theorem pl_sm (nl : notL kd 400 a.toInt.toNat false = (b.toInt.toNat, t)) (h : kd b.toInt.toNat ≠ 40) : plF kd nm D a.toInt.toNat p = rb (smF kd nm D b.toInt.toNat p) fun e q l => if cpM (kd e) = 0 then (e, q, none) else rb (smF kd nm D (e + 1) q) fun e' q' r => (e', q', some (nT t (bS (cpM (kd e)) l r))) := by
  unfold plF plainP
  rw [nl]
  show (if kd b.toInt.toNat = 40 then _ else _) = _
  rw [if_neg h]
theorem pl_s0 (nl : notL kd 400 a.toInt.toNat false = (b.toInt.toNat, t)) (h : kd b.toInt.toNat ≠ 40) (e : smF kd nm D b.toInt.toNat p = (c.toInt.toNat, q, none)) : plF kd nm D a.toInt.toNat p = (c.toInt.toNat, q, none) := by
  rw [pl_sm nl h, e]; rfl
theorem pl_c0 (nl : notL kd 400 a.toInt.toNat false = (b.toInt.toNat, t)) (h : kd b.toInt.toNat ≠ 40) (e : smF kd nm D b.toInt.toNat p = (c.toInt.toNat, q, some l)) (hc : cpM (kd c.toInt.toNat) = 0) : plF kd nm D a.toInt.toNat p = (c.toInt.toNat, q, none) := by
  rw [pl_sm nl h, e]
  show (if cpM (kd c.toInt.toNat) = 0 then _ else _) = _
  rw [if_pos hc]
theorem pl_r0 (nl : notL kd 400 a.toInt.toNat false = (b.toInt.toNat, t)) (h : kd b.toInt.toNat ≠ 40) (e : smF kd nm D b.toInt.toNat p = (c.toInt.toNat, q, some l)) (hc : cpM (kd c.toInt.toNat) ≠ 0) (h0 : 0 ≤ c.toInt) (ec : c'.toInt = c.toInt + 1) (e2 : smF kd nm D c'.toInt.toNat q = (c2.toInt.toNat, q2, none)) : plF kd nm D a.toInt.toNat p = (c2.toInt.toNat, q2, none) := by
  rw [pl_sm nl h, e]
  show (if cpM (kd c.toInt.toNat) = 0 then _ else rb (smF kd nm D (c.toInt.toNat + 1) q) _) = _
  rw [if_neg hc, show c.toInt.toNat + 1 = c'.toInt.toNat by omega, e2]; rfl
theorem pl_1 (nl : notL kd 400 a.toInt.toNat false = (b.toInt.toNat, t)) (h : kd b.toInt.toNat ≠ 40) (e : smF kd nm D b.toInt.toNat p = (c.toInt.toNat, q, some l)) (hc : cpM (kd c.toInt.toNat) ≠ 0) (h0 : 0 ≤ c.toInt) (ec : c'.toInt = c.toInt + 1) (e2 : smF kd nm D c'.toInt.toNat q = (c2.toInt.toNat, q2, some r)) : plF kd nm D a.toInt.toNat p = (c2.toInt.toNat, q2, some (nT t (bS (cpM (kd c.toInt.toNat)) l r))) := by
  rw [pl_sm nl h, e]
  show (if cpM (kd c.toInt.toNat) = 0 then _ else rb (smF kd nm D (c.toInt.toNat + 1) q) _) = _
  rw [if_neg hc, show c.toInt.toNat + 1 = c'.toInt.toNat by omega, e2]; rfl
end PLC
/-- with a "not", or without -/
theorem nt_0 {u : Int32} {d : DS} (h : u.toInt ≠ 1) : nT (decide (u.toInt = 1)) d = d := by
  rw [decide_eq_false h]; rfl
theorem nt_1 {u : Int32} {d : DS} (h : u.toInt = 1) : nT (decide (u.toInt = 1)) d = nS d := by
  rw [decide_eq_true h]; rfl
/-! a test -/
def TSC (rc : Nat → Int32) (e0 l wt : Int32) (w : Option (Nat × DS)) (d : DS) : Prop :=
  match w with
  | none => wt.toInt = -1 ∧ MCC rc e0.toInt.toNat l.toInt.toNat d
  | some x => wt.toInt = (x.1 : Int) ∧ MCC rc e0.toInt.toNat x.1 x.2 ∧ rc x.1 = (((11 : Int32) <<< ((12 : Int32) &&& 31)) ||| 0) ∧ MCC rc (x.1 + 1) l.toInt.toNat d ∧ is01 x.2
def TLC (pl : Nat → Nat → Nat × Nat × Option DS) (kd : Nat → Int) (F : Nat × Nat × Option DS) (rc0 rc : Nat → Int32) (e0 l wt a p i : Int32) : Prop := ∃ (w : Option (Nat × DS)) (d : DS), F = tstL pl kd (400 - i.toInt).toNat a.toInt.toNat p.toInt.toNat (w.map (·.2)) d ∧ TSC rc e0 l wt w d ∧ is01 d ∧ KCC rc0 rc e0.toInt ∧ lvC rc l.toInt.toNat = p.toInt.toNat
theorem rb_some {α β : Type} {a p : Nat} {d : α} {k : Nat → Nat → α → Nat × Nat × Option β} : rb (a, p, some d) k = k a p d := rfl
theorem tlc_0 {pl : Nat → Nat → Nat × Nat × Option DS} {kd : Nat → Int} {rc0 rc : Nat → Int32} {a0 p0 e0 l wt a p i : Int32} {d : DS} {F : Nat × Nat × Option DS} (hF : F = rb (pl a0.toInt.toNat p0.toInt.toNat) fun b q d => tstL pl kd 400 b q none d) (e : pl a0.toInt.toNat p0.toInt.toNat = (a.toInt.toNat, p.toInt.toNat, some d)) (hi : i.toInt = 0) (hw : wt.toInt = -1) (m : MCC rc e0.toInt.toNat l.toInt.toNat d) (z : is01 d) (k : KCC rc0 rc e0.toInt) (v : lvC rc l.toInt.toNat = p.toInt.toNat) : TLC pl kd F rc0 rc e0 l wt a p i := by
  refine ⟨none, d, ?_, ⟨hw, m⟩, z, k, v⟩
  rw [hF, e, rb_some, show (400 - i.toInt).toNat = 400 by omega, Option.map_none]
theorem testP_0 {pl : Nat → Nat → Nat × Nat × Option DS} {kd : Nat → Int} {a0 p0 b q : Nat} {F : Nat × Nat × Option DS} (hF : F = rb (pl a0 p0) fun b q d => tstL pl kd 400 b q none d) (e : pl a0 p0 = (b, q, none)) : F = (b, q, none) := by
  rw [hF, e]; rfl
section TSTC
variable {pl : Nat → Nat → Nat × Nat × Option DS} {kd : Nat → Int} {F : Nat × Nat × Option DS} {rc0 rc rc1 rc2 rc3 rc4 : Nat → Int32} {e0 l l2 l3 wt wt' a a2 p p2 i i' : Int32}
theorem tlc_un (w : Option DS) (d : DS) (h0 : 0 ≤ i.toInt) (hi : i.toInt < 400) : tstL pl kd (400 - i.toInt).toNat a.toInt.toNat p.toInt.toNat w d = if kd a.toInt.toNat = 261 then rb (pl (a.toInt.toNat + 1) p.toInt.toNat) fun b q e => tstL pl kd (400 - (i.toInt + 1)).toNat b q (some (pndT w d)) e else if kd a.toInt.toNat = 262 then rb (pl (a.toInt.toNat + 1) p.toInt.toNat) fun b q e => tstL pl kd (400 - (i.toInt + 1)).toNat b q w (aT d e) else (a.toInt.toNat, p.toInt.toNat, some (pndT w d)) := by
  rw [show (400 - i.toInt).toNat = (400 - (i.toInt + 1)).toNat + 1 by omega]; rfl
/-- it ends: an "or" that waits is told where -/
theorem tlc_end (h : TLC pl kd F rc0 rc e0 l wt a p i) (h0 : 0 ≤ i.toInt) (he : 0 ≤ e0.toInt ∧ e0.toInt ≤ l.toInt ∧ l.toInt ≤ 400) (hx : 400 ≤ i.toInt ∨ (kd a.toInt.toNat ≠ 261 ∧ kd a.toInt.toNat ≠ 262)) (hj : (wt.toInt < 0 ∧ rc1 = rc) ∨ (0 ≤ wt.toInt ∧ rc1 = upd rc wt.toNatClampNeg (rc wt.toNatClampNeg ||| l))) : ∃ d : DS, F = (a.toInt.toNat, p.toInt.toNat, some d) ∧ is01 d ∧ KCC rc0 rc1 e0.toInt ∧ MCC rc1 e0.toInt.toNat l.toInt.toNat d ∧ lvC rc1 l.toInt.toNat = p.toInt.toNat := by
  obtain ⟨w, d, h1, h2, h3, h4, h5⟩ := h
  have hF : F = (a.toInt.toNat, p.toInt.toNat, some (pndT (w.map (·.2)) d)) := by
    rw [h1]
    by_cases q : i.toInt < 400
    · rw [tlc_un _ _ h0 q, if_neg (by
        rcases hx with y | y
        · omega
        · exact y.1), if_neg (by
        rcases hx with y | y
        · omega
        · exact y.2)]
    · rw [show (400 - i.toInt).toNat = 0 by omega]; rfl
  refine ⟨_, hF, ?_⟩
  cases w with
  | none =>
    rcases hj with ⟨y, z⟩ | ⟨y, z⟩
    · rw [z]; exact ⟨h3, h4, h2.2, h5⟩
    · have u := h2.1; omega
  | some x =>
    obtain ⟨g1, g2, g3, g4, g5⟩ := h2
    rcases hj with ⟨y, z⟩ | ⟨y, z⟩
    · omega
    · have ex : wt.toInt.toNat = x.1 := by omega
      have z2 := g2.1
      have z4 := g4.1
      rw [z]
      refine ⟨i01_o g5 h3, fun j hj => ?_, ?_, ?_⟩
      · rw [upd_ne (by
          have y3 : j ≠ wt.toInt.toNat := by omega
          exact y3)]; exact h4 j hj
      · have m := mcc_jmp (j := wt) (o := 11) (l := l) (by rw [← g3, ← ex]; rfl) y (by rw [ex]; exact g2) (by rw [ex]; exact g4) (by omega) (Or.inl rfl) g5
        rw [if_neg (by decide)] at m
        exact m
      · rw [lvC_jmp (by
          have y2 : rc wt.toNatClampNeg = rc x.1 := congrArg rc ex
          rw [y2, g3]; decide) (by omega)]; exact h5
theorem tlc_bad {b q : Nat} (h : TLC pl kd F rc0 rc e0 l wt a p i) (h0 : 0 ≤ i.toInt) (hi : i.toInt < 400) (hk : kd a.toInt.toNat = 261 ∨ kd a.toInt.toNat = 262) (e : pl (a.toInt.toNat + 1) p.toInt.toNat = (b, q, none)) : F = (b, q, none) := by
  obtain ⟨w, d, h1, _⟩ := h
  rw [tlc_un _ d h0 hi] at h1
  rcases hk with y | y
  · rw [if_pos y, e] at h1; exact h1
  · rw [if_neg (by omega), if_pos y, e] at h1; exact h1
/-- "or": what waits is told where, a jump is written, the next is read -/
theorem tlc_or {x : DS} (h : TLC pl kd F rc0 rc e0 l wt a p i) (h0 : 0 ≤ i.toInt) (hi : i.toInt < 400) (he : 0 ≤ e0.toInt ∧ e0.toInt ≤ l.toInt ∧ l.toInt < 400) (hk : kd a.toInt.toNat = 261) (hj : (wt.toInt < 0 ∧ rc1 = rc) ∨ (0 ≤ wt.toInt ∧ rc1 = upd rc wt.toNatClampNeg (rc wt.toNatClampNeg ||| l))) (h2e : rc2 = upd rc1 l.toNatClampNeg (((11 : Int32) <<< ((12 : Int32) &&& 31)) ||| 0)) (e2 : l2.toInt = l.toInt + 1) (e : pl (a.toInt.toNat + 1) p.toInt.toNat = (a2.toInt.toNat, p2.toInt.toNat, some x)) (z : is01 x) (k : KCC rc2 rc3 l2.toInt) (m : MCC rc3 l2.toInt.toNat l3.toInt.toNat x) (v : lvC rc3 l3.toInt.toNat = p2.toInt.toNat) (ew : wt'.toInt = l.toInt) (ei : i'.toInt = i.toInt + 1) : TLC pl kd F rc0 rc3 e0 l3 wt' a2 p2 i' := by
  obtain ⟨w, d, h1, h2, h3, h4, h5⟩ := h
  have t : TLC pl kd (a.toInt.toNat, p.toInt.toNat, some (pndT (w.map (·.2)) d)) rc0 rc e0 l wt a p 400 := ⟨w, d, by rw [show (400 - (400 : Int32).toInt).toNat = 0 by decide]; rfl, h2, h3, h4, h5⟩
  obtain ⟨d1, g1, g2, g3, g4, g5⟩ := tlc_end t (by decide) ⟨he.1, he.2.1, by omega⟩ (Or.inl (by decide)) hj
  have ed : pndT (w.map (·.2)) d = d1 := Option.some.inj (congrArg (fun z : Nat × Nat × Option DS => z.2.2) g1)
  rw [tlc_un _ d h0 hi, if_pos hk, e] at h1
  have g6 := g4.1
  have k2 : KCC rc1 rc2 l.toInt := by rw [h2e]; exact kcc_em (by omega)
  refine ⟨some (l.toInt.toNat, d1), x, ?_, ⟨by omega, mcc_k (mcc_k g4 k2 (by omega)) k (by omega), ?_, ?_, g2⟩, z, kcc_tr (kcc_tr g3 k2 (by omega)) k (by omega), v⟩
  · rw [ei, h1]
    show tstL pl kd _ _ _ (some (pndT (w.map (·.2)) d)) x = tstL pl kd _ _ _ (some d1) x
    rw [ed]
  · rw [k l.toInt.toNat (by omega), h2e]; exact upd_eq
  · rw [show l.toInt.toNat + 1 = l2.toInt.toNat by omega]; exact m
/-- "and": a jump is written, the next is read, the jump is told where -/
theorem tlc_and {x : DS} (h : TLC pl kd F rc0 rc e0 l wt a p i) (h0 : 0 ≤ i.toInt) (hi : i.toInt < 400) (he : 0 ≤ e0.toInt ∧ e0.toInt ≤ l.toInt ∧ l.toInt < 400) (hk : kd a.toInt.toNat = 262) (h2e : rc2 = upd rc l.toNatClampNeg (((12 : Int32) <<< ((12 : Int32) &&& 31)) ||| 0)) (e2 : l2.toInt = l.toInt + 1) (e : pl (a.toInt.toNat + 1) p.toInt.toNat = (a2.toInt.toNat, p2.toInt.toNat, some x)) (z : is01 x) (k : KCC rc2 rc3 l2.toInt) (m : MCC rc3 l2.toInt.toNat l3.toInt.toNat x) (hl3 : 0 ≤ l3.toInt ∧ l3.toInt ≤ 400) (v : lvC rc3 l3.toInt.toNat = p2.toInt.toNat) {j : Int32} (ej : j.toInt = l.toInt) (h4e : rc4 = upd rc3 j.toNatClampNeg (rc3 j.toNatClampNeg ||| l3)) (ei : i'.toInt = i.toInt + 1) : TLC pl kd F rc0 rc4 e0 l3 wt a2 p2 i' := by
  obtain ⟨w, d, h1, h2, h3, h4, h5⟩ := h
  rw [tlc_un _ d h0 hi, if_neg (by omega), if_pos hk, e] at h1
  have k2 : KCC rc rc2 l.toInt := by rw [h2e]; exact kcc_em (by omega)
  have zm := m.1
  have ejn : j.toInt.toNat = l.toInt.toNat := by omega
  have hv3 : rc3 j.toNatClampNeg = (((12 : Int32) <<< ((12 : Int32) &&& 31)) ||| 0) := by
    show rc3 j.toInt.toNat = _
    rw [ejn, k l.toInt.toNat (by omega), h2e]; exact upd_eq
  have k4 : ∀ q : Nat, q ≠ l.toInt.toNat → rc4 q = rc3 q := fun q hq => by
    rw [h4e]
    refine upd_ne (fun y => hq ?_)
    have y : q = j.toInt.toNat := y
    omega
  have cur : ∀ a9 : Nat, MCC rc a9 l.toInt.toNat d → MCC rc4 a9 l3.toInt.toNat (aT d x) := fun a9 h9 => by
    have y := mcc_jmp (j := j) (o := 12) (l := l3) hv3 (by omega) (by rw [ejn]; exact mcc_k (mcc_k h9 k2 (by omega)) k (by omega)) (by rw [show j.toInt.toNat + 1 = l2.toInt.toNat by omega]; exact m) hl3 (Or.inr rfl) h3
    rw [if_pos rfl] at y
    rw [h4e]; exact y
  refine ⟨w, aT d x, by rw [ei]; exact h1, ?_, i01_a h3 z, ?_, ?_⟩
  · cases w with
    | none => exact ⟨h2.1, cur _ h2.2⟩
    | some y =>
      obtain ⟨g1, g2, g3, g4, g5⟩ := h2
      have z2 := g4.1
      refine ⟨g1, ?_, ?_, cur _ g4, g5⟩
      · refine mc_congr (mcc_k (mcc_k g2 k2 (by omega)) k (by omega)) (fun q _ hq => ?_)
        unfold opC arC
        rw [k4 q (by omega)]; exact ⟨rfl, rfl⟩
      · rw [k4 y.1 (by omega), k y.1 (by omega), k2 y.1 (by omega)]; exact g3
  · intro q hq
    rw [k4 q (by omega)]
    exact (kcc_tr (kcc_tr h4 k2 (by omega)) k (by omega)) q hq
  · rw [h4e, lvC_jmp (by rw [hv3]; decide) hl3]; exact v
end TSTC
theorem lv_and {rc rc2 rc3 rc4 : Nat → Int32} {l l2 l3 j : Int32} {n : Nat} (h2e : rc2 = upd rc l.toNatClampNeg (((12 : Int32) <<< ((12 : Int32) &&& 31)) ||| 0)) (h0 : 0 ≤ l.toInt) (e2 : l2.toInt = l.toInt + 1) (k : KCC rc2 rc3 l2.toInt) (hl3 : 0 ≤ l3.toInt ∧ l3.toInt ≤ 400) (ej : j.toInt = l.toInt) (h4e : rc4 = upd rc3 j.toNatClampNeg (rc3 j.toNatClampNeg ||| l3)) : lvC rc4 n = lvC rc3 n := by
  have hv3 : rc3 j.toNatClampNeg = (((12 : Int32) <<< ((12 : Int32) &&& 31)) ||| 0) := by
    show rc3 j.toInt.toNat = _
    rw [show j.toInt.toNat = l.toInt.toNat by omega, k l.toInt.toNat (by omega), h2e]; exact upd_eq
  rw [h4e]; exact lvC_jmp (by rw [hv3]; decide) hl3
/-! clauses, laws -/
abbrev CLT : Type := Int × Option DS × Option DS
def headP (kd : Nat → Int) (nm : Nat → Int32) (a p : Nat) : Nat × Nat × Option (Option DS) := if kd a < 258 then rb ((rdP kd nm 8).1 (a + 1) p) (fun b q d => (b, q, some (some d))) else (a + 1, p, some none)
def ifP (kd : Nat → Int) (nm : Nat → Int32) (h : Int) (s : Option DS) (b q : Nat) : Nat × Nat × Option CLT := if kd b = 260 then rb ((rdP kd nm 8).2 (b + 1) q) (fun b' q' t => (b', q', some (h, s, some t))) else (b, q, some (h, s, none))
def clsP (kd : Nat → Int) (nm : Nat → Int32) (a p : Nat) : Nat × Nat × Option CLT :=
  if 256 ≤ kd a ∧ kd a < 260 then rb (headP kd nm a p) fun b q s => ifP kd nm (kd a - 256) s b q
  else (a, p, none)
def lawL (kd : Nat → Int) (nm : Nat → Int32) : Nat → Nat → Nat → List CLT → Nat × Nat × Option (List CLT)
  | 0, a, p, _ => (a, p, none)
  | n + 1, a, p, L => rb (clsP kd nm a p) fun b q c => if kd b = 59 then lawL kd nm n (b + 1) q (L ++ [c]) else if kd b = 302 then (b, q, some (L ++ [c])) else (b, q, none)
/-- behind a clause -/
def lawA (kd : Nat → Int) (nm : Nat → Int32) (n b q : Nat) (L : List CLT) : Nat × Nat × Option (List CLT) := if kd b = 59 then lawL kd nm n (b + 1) q L else if kd b = 302 then (b, q, some L) else (b, q, none)
theorem lawL_S {kd : Nat → Int} {nm : Nat → Int32} {n a p : Nat} {L : List CLT} : lawL kd nm (n + 1) a p L = rb (clsP kd nm a p) fun b q c => lawA kd nm n b q (L ++ [c]) := rfl
def lawP (kd : Nat → Int) (nm : Nat → Int32) : Nat × Nat × Option (List CLT) := lawL kd nm 12 0 0 []
/-- a text's law: where it faults, or its clauses -/
def LAWX (x : Nat → Int32) (n : Nat) : Nat × Nat × Option (List CLT) := lawP (KDT x n) (NMT x n)
/-- a clause that holds: its sum (0 without) -/
def clH (c : CLT) (q : Nat → Int64) : Option Int64 :=
  match c.2.2 with
  | some t => (t q).bind fun v => if v = 0 then none else (match c.2.1 with | some s => s q | none => some 0)
  | none => (match c.2.1 with | some s => s q | none => some 0)
/-- what the last clause with a head that holds tells -/
def toldX (L : List CLT) (h : Int) (q : Nat → Int64) : Option Int64 := L.foldl (fun acc c => if c.1 = h then (match clH c q with | some v => some v | none => acc) else acc) none
theorem toldX_S {L : List CLT} {c : CLT} {h : Int} {q : Nat → Int64} : toldX (L ++ [c]) h q = if c.1 = h then (match clH c q with | some v => some v | none => toldX L h q) else toldX L h q := by
  unfold toldX; rw [List.foldl_append]; rfl
/-! the model's clause -/
def CLM (op ar nl : Nat → Int32) (k : Nat) (c : CLT) : Prop := (nl k).toInt = c.1 ∧ ((c.2.1 = none ∧ 2 ≤ c.1) ∨ ∃ d, c.2.1 = some d ∧ c.1 < 2 ∧ MC op ar (nl (k + 3)).toInt.toNat (nl (k + 4)).toInt.toNat d) ∧ ((c.2.2 = none ∧ nl (k + 5) = nl (k + 6)) ∨ ∃ t, c.2.2 = some t ∧ is01 t ∧ MC op ar (nl (k + 5)).toInt.toNat (nl (k + 6)).toInt.toNat t)
/-- a segment that computes is not empty -/
theorem mc_lt {op ar : Nat → Int32} {a b : Nat} {d : DS} (h : MC op ar a b d) : a < b := by
  refine Nat.lt_of_le_of_ne h.1 (fun e => ?_)
  have z := h.2.1
  rw [e] at z
  unfold lvS at z
  rw [Nat.sub_self] at z
  have z : 1 ≤ 0 := z
  omega
/-! the class's clause -/
def CLC (rc : Nat → Int32) (l l' : Nat) (c : CLT) : Prop := ∃ m : Nat, ((c.2.1 = none ∧ 2 ≤ c.1 ∧ m = l) ∨ ∃ d, c.2.1 = some d ∧ c.1 < 2 ∧ MCC rc l m d) ∧ ((c.2.2 = none ∧ l' = m) ∨ ∃ (t : DS) (k : Nat), c.2.2 = some t ∧ is01 t ∧ MCC rc m k t ∧ l' = k + 1 ∧ (opT (rc k)).toInt = 30)
theorem clc_k {rc rc' : Nat → Int32} {l l' : Nat} {c : CLT} {n : Int} (h : CLC rc l l' c) (k : KCC rc rc' n) (hn : (l' : Int) ≤ n) : CLC rc' l l' c := by
  obtain ⟨m, h1, h2⟩ := h
  have hm : m ≤ l' := by
    rcases h2 with ⟨_, y⟩ | ⟨t, q, _, _, y, z, _⟩
    · omega
    · have w := y.1; omega
  refine ⟨m, ?_, ?_⟩
  · rcases h1 with y | ⟨d, y1, y2, y3⟩
    · exact Or.inl y
    · exact Or.inr ⟨d, y1, y2, mcc_k y3 k (by omega)⟩
  · rcases h2 with y | ⟨t, q, y1, y2, y3, y4, y5⟩
    · exact Or.inl y
    · exact Or.inr ⟨t, q, y1, y2, mcc_k y3 k (by omega), y4, by rw [k q (by omega)]; exact y5⟩
/-- the class's law: so many clauses, where each one's code begins -/
def LWC (hd st rc : Nat → Int32) (L : List CLT) (n : Nat) : Prop := L.length = n ∧ ∀ (j : Nat) (c : CLT), L[j]? = some c → (hd j).toInt = c.1 ∧ CLC rc (st j).toInt.toNat (st (j + 1)).toInt.toNat c
/-! the class's clause, its law -/
section CLSC
variable {kd : Nat → Int} {nm : Nat → Int32} {a a' b b' c : Int32} {p q q2 : Nat} {s : Option DS} {d t : DS}
theorem hd_S : (rdP kd nm 8).1 = smF kd nm (0 : Int32) := by
  unfold smF
  rw [show (0 : Int32).toInt.toNat = 0 from by decide]
  exact rd_S (d := 0) (by omega)
theorem hd_T : (rdP kd nm 8).2 = tsF kd nm (0 : Int32) := by
  unfold tsF smF
  rw [show (0 : Int32).toInt.toNat = 0 from by decide]
  exact rd_T (d := 0) (by omega)
theorem cl_no (h : ¬ (256 ≤ kd a.toInt.toNat ∧ kd a.toInt.toNat < 260)) : clsP kd nm a.toInt.toNat p = (a.toInt.toNat, p, none) := by
  unfold clsP; rw [if_neg h]
theorem cl_s0 (h : 256 ≤ kd a.toInt.toNat ∧ kd a.toInt.toNat < 258) (h0 : 0 ≤ a.toInt) (ea : a'.toInt = a.toInt + 1) (e : smF kd nm (0 : Int32) a'.toInt.toNat p = (b.toInt.toNat, q, none)) : clsP kd nm a.toInt.toNat p = (b.toInt.toNat, q, none) := by
  unfold clsP headP
  rw [if_pos ⟨h.1, by omega⟩, if_pos h.2, hd_S, show a.toInt.toNat + 1 = a'.toInt.toNat by omega, e]; rfl
def HDR (kd : Nat → Int) (nm : Nat → Int32) (a b : Int32) (p q : Nat) (s : Option DS) : Prop := (256 ≤ kd a.toInt.toNat ∧ kd a.toInt.toNat < 260) ∧ headP kd nm a.toInt.toNat p = (b.toInt.toNat, q, some s)
theorem hdr_s (h : 256 ≤ kd a.toInt.toNat ∧ kd a.toInt.toNat < 258) (h0 : 0 ≤ a.toInt) (ea : a'.toInt = a.toInt + 1) (e : smF kd nm (0 : Int32) a'.toInt.toNat p = (b.toInt.toNat, q, some d)) : HDR kd nm a b p q (some d) := by
  refine ⟨⟨h.1, by omega⟩, ?_⟩
  unfold headP
  rw [if_pos h.2, hd_S, show a.toInt.toNat + 1 = a'.toInt.toNat by omega, e]; rfl
theorem hdr_n (h : 258 ≤ kd a.toInt.toNat ∧ kd a.toInt.toNat < 260) (h0 : 0 ≤ a.toInt) (ea : a'.toInt = a.toInt + 1) : HDR kd nm a a' p p none := by
  refine ⟨⟨by omega, h.2⟩, ?_⟩
  unfold headP
  rw [if_neg (by omega), show a'.toInt.toNat = a.toInt.toNat + 1 by omega]
theorem cl_un (h : HDR kd nm a b p q s) : clsP kd nm a.toInt.toNat p = ifP kd nm (kd a.toInt.toNat - 256) s b.toInt.toNat q := by
  unfold clsP
  rw [if_pos h.1, h.2]; rfl
theorem cl_1n (h : HDR kd nm a b p q s) (hk : kd b.toInt.toNat ≠ 260) (eb : b'.toInt = b.toInt) : clsP kd nm a.toInt.toNat p = (b'.toInt.toNat, q, some (kd a.toInt.toNat - 256, s, none)) := by
  rw [cl_un h, eb]
  unfold ifP; rw [if_neg hk]
theorem cl_t0 (h : HDR kd nm a b p q s) (hk : kd b.toInt.toNat = 260) (h0 : 0 ≤ b.toInt) (eb : b'.toInt = b.toInt + 1) (e : tsF kd nm (0 : Int32) b'.toInt.toNat q = (c.toInt.toNat, q2, none)) : clsP kd nm a.toInt.toNat p = (c.toInt.toNat, q2, none) := by
  rw [cl_un h]
  unfold ifP
  rw [if_pos hk, hd_T, show b.toInt.toNat + 1 = b'.toInt.toNat by omega, e]; rfl
theorem cl_1t (h : HDR kd nm a b p q s) (hk : kd b.toInt.toNat = 260) (h0 : 0 ≤ b.toInt) (eb : b'.toInt = b.toInt + 1) (e : tsF kd nm (0 : Int32) b'.toInt.toNat q = (c.toInt.toNat, q2, some t)) : clsP kd nm a.toInt.toNat p = (c.toInt.toNat, q2, some (kd a.toInt.toNat - 256, s, some t)) := by
  rw [cl_un h]
  unfold ifP
  rw [if_pos hk, hd_T, show b.toInt.toNat + 1 = b'.toInt.toNat by omega, e]; rfl
end CLSC
theorem clc_s {rc : Nat → Int32} {l l1 : Int32} {h : Int} {d : DS} (hh : h < 2) (m : MCC rc l.toInt.toNat l1.toInt.toNat d) : CLC rc l.toInt.toNat l1.toInt.toNat (h, some d, none) := ⟨l1.toInt.toNat, Or.inr ⟨d, rfl, hh, m⟩, Or.inl ⟨rfl, rfl⟩⟩
theorem clc_n {rc : Nat → Int32} {l : Int32} {h : Int} (hh : 2 ≤ h) : CLC rc l.toInt.toNat l.toInt.toNat (h, none, none) := ⟨l.toInt.toNat, Or.inl ⟨rfl, hh, rfl⟩, Or.inl ⟨rfl, rfl⟩⟩
theorem clc_t {rc1 rc2 rc3 : Nat → Int32} {l l1 l2 l3 : Int32} {h : Int} {s : Option DS} {t : DS} (c : CLC rc1 l.toInt.toNat l1.toInt.toNat (h, s, none)) (k : KCC rc1 rc2 l1.toInt) (h1 : 0 ≤ l1.toInt) (m : MCC rc2 l1.toInt.toNat l2.toInt.toNat t) (z : is01 t) (h2 : 0 ≤ l2.toInt) (e : rc3 = upd rc2 l2.toNatClampNeg (((10 : Int32) <<< ((12 : Int32) &&& 31)) ||| 0)) (e3 : l3.toInt = l2.toInt + 1) : CLC rc3 l.toInt.toNat l3.toInt.toNat (h, s, some t) := by
  have zm := m.1
  have k3 : KCC rc2 rc3 l2.toInt := by rw [e]; exact kcc_em h2
  have c2 := clc_k (clc_k c k (by omega)) k3 (by omega)
  obtain ⟨m0, c3, c4⟩ := c2
  have em : l1.toInt.toNat = m0 := by
    rcases c4 with ⟨_, y⟩ | ⟨_, _, y, _⟩
    · exact y
    · cases y
  subst em
  clear c4
  refine ⟨l1.toInt.toNat, c3, Or.inr ⟨t, l2.toInt.toNat, rfl, z, mcc_k m k3 (by omega), by omega, ?_⟩⟩
  rw [e]
  show (opT (upd rc2 l2.toInt.toNat _ l2.toInt.toNat)).toInt = 30
  rw [upd_eq, opT_10 (by decide)]; decide
/-- the clauses read so far, the last one's code up to where it stands -/
def LWE (hd st rc : Nat → Int32) (L : List CLT) (n : Nat) (l : Nat) : Prop := L.length = n ∧ ∀ (j : Nat) (c : CLT), L[j]? = some c → (hd j).toInt = c.1 ∧ CLC rc (st j).toInt.toNat (if j + 1 = n then l else (st (j + 1)).toInt.toNat) c
theorem lwe_0 {hd st rc : Nat → Int32} {k : Int32} {l : Nat} (h : k.toInt = 0) : LWE hd st rc [] k.toInt.toNat l := by
  rw [h]
  exact ⟨rfl, fun j c hc => by cases hc⟩
theorem lwe_S {hd hd' st st' rc rc' : Nat → Int32} {L : List CLT} {k k' l l' : Int32} {c : CLT} (h : LWE hd st rc L k.toInt.toNat l.toInt.toNat) (h0 : 0 ≤ k.toInt) (hl : 0 ≤ l.toInt) (ek : k'.toInt = k.toInt + 1) (keep : ∀ j : Nat, j ≠ k.toNatClampNeg → hd' j = hd j ∧ st' j = st j) (kc : KCC rc rc' l.toInt) (e1 : (hd' k.toNatClampNeg).toInt = c.1) (e2 : st' k.toNatClampNeg = l) (cc : CLC rc' l.toInt.toNat l'.toInt.toNat c) (le : ∀ j : Nat, j + 1 < k.toInt.toNat → (st (j + 1)).toInt.toNat ≤ l.toInt.toNat) : LWE hd' st' rc' (L ++ [c]) k'.toInt.toNat l'.toInt.toNat := by
  obtain ⟨hl1, h2⟩ := h
  have ekn : k'.toInt.toNat = k.toInt.toNat + 1 := by omega
  refine ⟨by rw [List.length_append, hl1, ekn]; rfl, fun j c9 hc => ?_⟩
  by_cases q : j < k.toInt.toNat
  · rw [List.getElem?_append_left (by omega)] at hc
    obtain ⟨a, b⟩ := h2 j c9 hc
    have nj : j ≠ k.toNatClampNeg := by
      have y : j ≠ k.toInt.toNat := by omega
      exact y
    rw [(keep j nj).1, (keep j nj).2, if_neg (by omega)]
    refine ⟨a, ?_⟩
    by_cases q2 : j + 1 = k.toInt.toNat
    · rw [if_pos q2] at b
      have e3 : st' (j + 1) = l := by
        rw [q2]; exact e2
      rw [e3]
      exact clc_k b kc (by omega)
    · rw [if_neg q2] at b
      have nj2 : j + 1 ≠ k.toNatClampNeg := q2
      rw [(keep (j + 1) nj2).2]
      exact clc_k b kc (by have u := le j (by omega); omega)
  · have ej : j = k.toInt.toNat := by
      have y := (List.getElem?_eq_some_iff.mp hc).1
      rw [List.length_append, hl1] at y
      have y : j < k.toInt.toNat + 1 := y
      omega
    subst ej
    rw [List.getElem?_append_right (by omega), hl1, Nat.sub_self] at hc
    have hc : some c = some c9 := hc
    rw [← Option.some.inj hc]
    refine ⟨e1, ?_⟩
    rw [if_pos (by omega)]
    have e3 : st' k.toInt.toNat = l := e2
    rw [e3]; exact cc
/-- where reading stands -/
def LLC (kd : Nat → Int) (nm hd st rc : Nat → Int32) (a p l k : Int32) : Prop := ∃ L : List CLT, lawP kd nm = lawL kd nm (12 - k.toInt).toNat a.toInt.toNat p.toInt.toNat L ∧ LWE hd st rc L k.toInt.toNat l.toInt.toNat
section LAWC
variable {kd : Nat → Int} {nm hd hd' st st' rc rc' : Nat → Int32} {a b b' p q l l' k k' : Int32} {c : CLT}
theorem llc_0 (ha : a.toInt = 0) (hp : p.toInt = 0) (hk : k.toInt = 0) : LLC kd nm hd st rc a p l k := by
  refine ⟨[], ?_, lwe_0 hk⟩
  rw [ha, hp, hk]; rfl
theorem llc_un (L : List CLT) (h0 : 0 ≤ k.toInt) (hk : k.toInt < 12) : lawL kd nm (12 - k.toInt).toNat a.toInt.toNat p.toInt.toNat L = rb (clsP kd nm a.toInt.toNat p.toInt.toNat) fun b q c => lawA kd nm (12 - (k.toInt + 1)).toNat b q (L ++ [c]) := by
  rw [show (12 - k.toInt).toNat = (12 - (k.toInt + 1)).toNat + 1 by omega]; rfl
theorem llc_out (h : LLC kd nm hd st rc a p l k) (hk : 12 ≤ k.toInt) : lawP kd nm = (a.toInt.toNat, p.toInt.toNat, none) := by
  obtain ⟨L, h1, _⟩ := h
  rw [h1, show (12 - k.toInt).toNat = 0 by omega]; rfl
theorem llc_bad {q : Nat} (h : LLC kd nm hd st rc a p l k) (h0 : 0 ≤ k.toInt) (hk : k.toInt < 12) (e : clsP kd nm a.toInt.toNat p.toInt.toNat = (b.toInt.toNat, q, none)) : lawP kd nm = (b.toInt.toNat, q, none) := by
  obtain ⟨L, h1, _⟩ := h
  rw [h1, llc_un L h0 hk, e]; rfl
theorem llc_no {q : Nat} (h : LLC kd nm hd st rc a p l k) (h0 : 0 ≤ k.toInt) (hk : k.toInt < 12) (e : clsP kd nm a.toInt.toNat p.toInt.toNat = (b.toInt.toNat, q, some c)) (n1 : kd b.toInt.toNat ≠ 302) (n2 : kd b.toInt.toNat ≠ 59) (eb : b'.toInt = b.toInt) : lawP kd nm = (b'.toInt.toNat, q, none) := by
  obtain ⟨L, h1, _⟩ := h
  rw [h1, llc_un L h0 hk, e, eb]
  show lawA kd nm _ _ _ _ = _
  unfold lawA
  rw [if_neg n2, if_neg n1]
theorem llc_nx (h : LLC kd nm hd st rc a p l k) (h0 : 0 ≤ k.toInt ∧ 0 ≤ l.toInt) (ek : k'.toInt = k.toInt + 1) (keep : ∀ j : Nat, j ≠ k.toNatClampNeg → hd' j = hd j ∧ st' j = st j) (kc : KCC rc rc' l.toInt) (e1 : (hd' k.toNatClampNeg).toInt = c.1) (e2 : st' k.toNatClampNeg = l) (cc : CLC rc' l.toInt.toNat l'.toInt.toNat c) (sti : STI st k.toInt l.toInt) : ∃ L : List CLT, lawP kd nm = lawL kd nm (12 - k.toInt).toNat a.toInt.toNat p.toInt.toNat L ∧ LWE hd' st' rc' (L ++ [c]) k'.toInt.toNat l'.toInt.toNat := by
  obtain ⟨L, h1, h2⟩ := h
  exact ⟨L, h1, lwe_S h2 h0.1 h0.2 ek keep kc e1 e2 cc (fun j hj => by have z := sti (j + 1) (by omega); omega)⟩
theorem llc_end (h : ∃ L : List CLT, lawP kd nm = lawL kd nm (12 - k.toInt).toNat a.toInt.toNat p.toInt.toNat L ∧ LWE hd' st' rc' (L ++ [c]) k'.toInt.toNat l'.toInt.toNat) (h0 : 0 ≤ k.toInt) (hk : k.toInt < 12) (e : clsP kd nm a.toInt.toNat p.toInt.toNat = (b.toInt.toNat, q.toInt.toNat, some c)) (n1 : kd b.toInt.toNat = 302) : ∃ L : List CLT, (lawP kd nm).2.2 = some L ∧ LWE hd' st' rc' L k'.toInt.toNat l'.toInt.toNat := by
  obtain ⟨L, h1, h2⟩ := h
  refine ⟨L ++ [c], ?_, h2⟩
  rw [h1, llc_un L h0 hk, e]
  show (lawA kd nm _ _ _ _).2.2 = _
  unfold lawA
  rw [if_neg (by omega), if_pos n1]
theorem llc_S (h : ∃ L : List CLT, lawP kd nm = lawL kd nm (12 - k.toInt).toNat a.toInt.toNat p.toInt.toNat L ∧ LWE hd' st' rc' (L ++ [c]) k'.toInt.toNat l'.toInt.toNat) (h0 : 0 ≤ k.toInt) (hk : k.toInt < 12) (ek : k'.toInt = k.toInt + 1) (e : clsP kd nm a.toInt.toNat p.toInt.toNat = (b.toInt.toNat, q.toInt.toNat, some c)) (n1 : kd b.toInt.toNat = 59) (hb : 0 ≤ b.toInt) (eb : b'.toInt = b.toInt + 1) : LLC kd nm hd' st' rc' b' q l' k' := by
  obtain ⟨L, h1, h2⟩ := h
  refine ⟨L ++ [c], ?_, h2⟩
  rw [h1, llc_un L h0 hk, e]
  show lawA kd nm _ _ _ _ = _
  unfold lawA
  rw [if_pos n1, show b'.toInt.toNat = b.toInt.toNat + 1 by omega, ek]
end LAWC
/-- the law made of copies -/
theorem lwc_of {hd st rc fh fs fc : Nat → Int32} {L : List CLT} {k l l9 : Int32} {nh ns nc : Nat} (h : LWE hd st rc L k.toInt.toNat l.toInt.toNat) (hk : 0 ≤ k.toInt) (hl : 0 ≤ l.toInt) (eh : ∀ j : Nat, j < nh → fh j = hd j) (nh1 : (nh : Int) = k.toInt) (es : ∀ j : Nat, j < ns → fs j = upd st k.toNatClampNeg l j) (ns1 : (ns : Int) = k.toInt + 1) (ec : ∀ j : Nat, j < nc → fc j = rc j) (nc1 : (nc : Int) = l.toInt) (sti : ∀ j : Nat, j < k.toInt.toNat → (st j).toInt.toNat ≤ l.toInt.toNat) : LWC fh fs fc L k.toInt.toNat := by
  refine ⟨h.1, fun j c hc => ?_⟩
  have hj := (List.getElem?_eq_some_iff.mp hc).1
  rw [h.1] at hj
  obtain ⟨a, b⟩ := h.2 j c hc
  have nj : j ≠ k.toNatClampNeg := by
    have y : j ≠ k.toInt.toNat := by omega
    exact y
  rw [eh j (by omega), es j (by omega), es (j + 1) (by omega), upd_ne nj]
  refine ⟨a, ?_⟩
  have kk : KCC rc fc l.toInt := fun i hi => ec i (by omega)
  by_cases q : j + 1 = k.toInt.toNat
  · rw [if_pos q] at b
    have e3 : upd st k.toNatClampNeg l (j + 1) = l := by
      show upd st k.toInt.toNat l (j + 1) = l
      rw [q, upd_eq]
    rw [e3]
    exact clc_k b kk (by omega)
  · rw [if_neg q] at b
    have nj2 : j + 1 ≠ k.toNatClampNeg := q
    rw [upd_ne nj2]
    exact clc_k b kk (by have u := sti (j + 1) (by omega); omega)
theorem pl_at {kd nm pl x : Nat → Int32} {n T : Nat} {a : Int32} (h : TKA kd nm pl x n T) (k : TKE kd pl x n T) (h0 : 0 ≤ a.toInt) (h1 : a.toInt ≤ (T : Int)) : (pl a.toNatClampNeg).toInt = (pT x n a.toInt.toNat : Int) := by
  show (pl a.toInt.toNat).toInt = _
  by_cases q : a.toInt.toNat < T
  · exact (h a.toInt.toNat q).2.2
  · rw [show a.toInt.toNat = T by omega, k.1]; exact k.2.2.1
theorem lvc_cp {rc fc : Nat → Int32} {nc : Nat} {l p : Int32} (ec : ∀ j : Nat, j < nc → fc j = rc j) (hn : (nc : Int) = l.toInt) (h : lvC rc l.toInt.toNat = p.toInt.toNat) (hp : p.toInt ≤ 50) : lvC fc nc ≤ 50 := by
  rw [lvC_congr nc (fun j hj => by rw [ec j hj]), show nc = l.toInt.toNat by omega, h]; omega
theorem g_incC (k : Int32) (h : 0 ≤ k.toInt ∧ k.toInt ≤ 12) : (k + 1).toInt = k.toInt + 1 := g5_iadd rfl (by decide) (by omega) (by omega)
/-! the model's clause and law told exactly -/
theorem rq_le {x : Nat → Int32} {td gt : Int32} {S0 : MS} {t : Int} {bad : Bool} {fr to so : Int32} {wo : Int64} {op ar pi pa : Nat → Int32} {co pd od le : Int32} (h : RQ x td gt S0 t bad fr to so wo op ar pi pa co pd od le) : 0 ≤ le.toInt ∧ le.toInt ≤ 50 := by
  obtain ⟨k, _, F⟩ := h
  exact F.2.2.1
/-- the clause that is read next, if there is room -/
def clsM (x : Nat → Int32) (n : Nat) (nc : Int) (k p : Nat) : Nat × Nat × Option CLT := if nc < 12 then clsP (KDT x n) (NMT x n) k p else (k, p, none)
def CLX (x : Nat → Int32) (td nc co le : Int32) (k0 : Nat) (bd' fr' to' so' : Int32) (wo' : Int64) (op' ar' nl' : Nat → Int32) (co' le' : Int32) : Prop := SpS (fun b q c => bd'.toInt = 0 ∧ TOKA x td.toInt.toNat (pT x td.toInt.toNat b) fr' to' so' wo' ∧ le'.toInt = (q : Int) ∧ CLM op' ar' nl' (8 * nc.toInt.toNat) c ∧ k0 < b ∧ b ≤ td.toInt.toNat ∧ co'.toInt + (k0 : Int) ≤ co.toInt + (b : Int)) (fun b => bd'.toInt = 1 ∧ TOKA x td.toInt.toNat (pT x td.toInt.toNat b) fr' to' so' wo') (clsM x td.toInt.toNat nc.toInt k0 le.toInt.toNat)
section CLXS
variable {x : Nat → Int32} {td nc co le : Int32} {k0 : Nat} {bd fr to so : Int32} {wo : Int64} {op ar nl : Nat → Int32}
/-- no head, or no room -/
theorem clx_no {op' ar' nl' : Nat → Int32} {co' le' : Int32} (T : TOKA x td.toInt.toNat (pT x td.toInt.toNat k0) fr to so wo) (h : 12 ≤ nc.toInt ∨ ¬ (256 ≤ KDT x td.toInt.toNat k0 ∧ KDT x td.toInt.toNat k0 < 260)) (hb : bd.toInt = 1) : CLX x td nc co le k0 bd fr to so wo op' ar' nl' co' le' := by
  have e : clsM x td.toInt.toNat nc.toInt k0 le.toInt.toNat = (k0, le.toInt.toNat, none) := by
    unfold clsM
    by_cases q : nc.toInt < 12
    · rw [if_pos q]
      rcases h with h | h
      · omega
      · unfold clsP; rw [if_neg h]
    · rw [if_neg q]
  unfold CLX
  rw [e]; exact ⟨hb, T⟩
theorem hd_no {its : Int} (hp : PTW 256 0 (KDT x td.toInt.toNat k0) its 4) (h : its = -1) : ¬ (256 ≤ KDT x td.toInt.toNat k0 ∧ KDT x td.toInt.toNat k0 < 260) := by
  intro z
  rcases hp with ⟨a, b⟩ | ⟨a, b, c⟩
  · exact b (KDT x td.toInt.toNat k0 - 256) (by omega) (by omega) (by omega)
  · omega
theorem hd_yes {its : Int} (hp : PTW 256 0 (KDT x td.toInt.toNat k0) its 4) (h : its ≠ -1) : KDT x td.toInt.toNat k0 = 256 + its ∧ 0 ≤ its ∧ its < 4 := by
  rcases hp with ⟨a, b⟩ | ⟨a, b, c⟩
  · exact absurd a h
  · exact ⟨by omega, by omega, by omega⟩
/-- the head and its sum, as it stands behind them -/
def HDX (x : Nat → Int32) (td co le : Int32) (k0 : Nat) (hd : Int) (bd fr to so : Int32) (wo : Int64) (op ar : Nat → Int32) (co1 le1 : Int32) : Prop := (KDT x td.toInt.toNat k0 = 256 + hd ∧ 0 ≤ hd ∧ hd < 4) ∧ SpS (fun b q s => bd.toInt = 0 ∧ TOKA x td.toInt.toNat (pT x td.toInt.toNat b) fr to so wo ∧ le1.toInt = (q : Int) ∧ ((s = none ∧ 2 ≤ hd) ∨ ∃ d, s = some d ∧ hd < 2 ∧ MC op ar co.toInt.toNat co1.toInt.toNat d) ∧ k0 < b ∧ b ≤ td.toInt.toNat ∧ co1.toInt + (k0 : Int) ≤ co.toInt + (b : Int)) (fun b => bd.toInt = 1 ∧ TOKA x td.toInt.toNat (pT x td.toInt.toNat b) fr to so wo) (headP (KDT x td.toInt.toNat) (NMT x td.toInt.toNat) k0 le.toInt.toNat)
variable {hd : Int} {co1 le1 : Int32} {op1 ar1 : Nat → Int32}
theorem hdx_n (hk : KDT x td.toInt.toNat k0 = 256 + hd ∧ 0 ≤ hd ∧ hd < 4) (h2 : 2 ≤ hd) (hb : bd.toInt = 0) (T : TOKA x td.toInt.toNat (pT x td.toInt.toNat (k0 + 1)) fr to so wo) (hl : 0 ≤ le.toInt) (hn : k0 < td.toInt.toNat) (h0 : 0 ≤ co.toInt) : HDX x td co le k0 hd bd fr to so wo op ar co le := by
  refine ⟨hk, ?_⟩
  unfold headP
  rw [if_neg (by omega)]
  exact ⟨hb, T, by omega, Or.inl ⟨rfl, h2⟩, by omega, by omega, by omega⟩
theorem hdx_s {gt : Int32} (hk : KDT x td.toInt.toNat k0 = 256 + hd ∧ 0 ≤ hd ∧ hd < 4) (h2 : hd < 2) (hg : gt.toInt = 0) (E : EXR x td gt (k0 + 1) op ar co le bd fr to so wo op1 ar1 co1 le1) : HDX x td co le k0 hd bd fr to so wo op1 ar1 co1 le1 := by
  refine ⟨hk, ?_⟩
  unfold EXR at E
  rw [if_neg (by omega)] at E
  unfold headP
  rw [if_pos (by omega)]
  refine sp_rb E (fun a h => h) (fun b q d h => ?_)
  obtain ⟨g1, g2, g3, g4, g5, g6, g7, g8, g9⟩ := h
  exact ⟨g1, g2, g3, Or.inr ⟨d, rfl, h2, g8⟩, by omega, g6, by omega⟩
theorem clsM_un (hn : nc.toInt < 12) (hk : KDT x td.toInt.toNat k0 = 256 + hd ∧ 0 ≤ hd ∧ hd < 4) : clsM x td.toInt.toNat nc.toInt k0 le.toInt.toNat = rb (headP (KDT x td.toInt.toNat) (NMT x td.toInt.toNat) k0 le.toInt.toNat) fun b q s => ifP (KDT x td.toInt.toNat) (NMT x td.toInt.toNat) hd s b q := by
  unfold clsM clsP
  rw [if_pos hn, if_pos ⟨by omega, by omega⟩, show KDT x td.toInt.toNat k0 - 256 = hd by omega]
/-- the sum was bad -/
theorem clx_sB {op' ar' nl' : Nat → Int32} {co' le' : Int32} (hn : nc.toInt < 12) (H : HDX x td co le k0 hd bd fr to so wo op1 ar1 co1 le1) (hb : bd.toInt ≠ 0) : CLX x td nc co le k0 bd fr to so wo op' ar' nl' co' le' := by
  unfold CLX
  rw [clsM_un hn H.1]
  refine sp_rb H.2 (fun a h => h) (fun b q d h => ?_)
  exact absurd h.1 hb
/-- its place in the row of clauses -/
theorem nl_at {cl : Nat → Int32} {n i0 i3 i4 i5 i6 h m0 m1 m2 : Int32} (h0 : 0 ≤ n.toInt) (e0 : i0.toInt = 8 * n.toInt) (e3 : i3.toInt = i0.toInt + 3) (e4 : i4.toInt = i0.toInt + 4) (e5 : i5.toInt = i0.toInt + 5) (e6 : i6.toInt = i0.toInt + 6) {nl : Nat → Int32} (e : nl = upd (upd (upd (upd (upd cl i0.toNatClampNeg h) i3.toNatClampNeg m0) i4.toNatClampNeg m1) i5.toNatClampNeg m1) i6.toNatClampNeg m2) : nl (8 * n.toInt.toNat) = h ∧ nl (8 * n.toInt.toNat + 3) = m0 ∧ nl (8 * n.toInt.toNat + 4) = m1 ∧ nl (8 * n.toInt.toNat + 5) = m1 ∧ nl (8 * n.toInt.toNat + 6) = m2 := by
  have c0 := g5_clamp i0
  have c3 := g5_clamp i3
  have c4 := g5_clamp i4
  have c5 := g5_clamp i5
  have c6 := g5_clamp i6
  subst e
  refine ⟨?_, ?_, ?_, ?_, ?_⟩
  · rw [show 8 * n.toInt.toNat = i0.toNatClampNeg by omega, upd_ne (by omega), upd_ne (by omega), upd_ne (by omega), upd_ne (by omega), upd_eq]
  · rw [show 8 * n.toInt.toNat + 3 = i3.toNatClampNeg by omega, upd_ne (by omega), upd_ne (by omega), upd_ne (by omega), upd_eq]
  · rw [show 8 * n.toInt.toNat + 4 = i4.toNatClampNeg by omega, upd_ne (by omega), upd_ne (by omega), upd_eq]
  · rw [show 8 * n.toInt.toNat + 5 = i5.toNatClampNeg by omega, upd_ne (by omega), upd_eq]
  · rw [show 8 * n.toInt.toNat + 6 = i6.toNatClampNeg by omega, upd_eq]
variable {nl' : Nat → Int32}
/-- without a test -/
theorem clx_1n {h : Int32} (hn : nc.toInt < 12) (H : HDX x td co le k0 hd bd fr to so wo op1 ar1 co1 le1) (hb : bd.toInt = 0) (hk : ∀ b : Nat, TOKA x td.toInt.toNat (pT x td.toInt.toNat b) fr to so wo → KDT x td.toInt.toNat b ≠ 260) (N : nl' (8 * nc.toInt.toNat) = h ∧ nl' (8 * nc.toInt.toNat + 3) = co ∧ nl' (8 * nc.toInt.toNat + 4) = co1 ∧ nl' (8 * nc.toInt.toNat + 5) = co1 ∧ nl' (8 * nc.toInt.toNat + 6) = co1) (eh : h.toInt = hd) : CLX x td nc co le k0 bd fr to so wo op1 ar1 nl' co1 le1 := by
  unfold CLX
  rw [clsM_un hn H.1]
  refine sp_rb H.2 (fun a h => h) (fun b q s g => ?_)
  obtain ⟨g1, g2, g3, g4, g5, g6, g7⟩ := g
  obtain ⟨n0, n3, n4, n5, n6⟩ := N
  unfold ifP
  rw [if_neg (hk b g2)]
  refine ⟨hb, g2, g3, ⟨by rw [n0]; exact eh, ?_, Or.inl ⟨rfl, by rw [n5, n6]⟩⟩, g5, g6, g7⟩
  rw [n3, n4]; exact g4
/-- behind the head and its sum: which token -/
def HDB (x : Nat → Int32) (td co le : Int32) (k0 : Nat) (hd : Int) (fr to so : Int32) (wo : Int64) (op ar : Nat → Int32) (co1 le1 : Int32) (b : Nat) : Prop := ∃ (q : Nat) (s : Option DS), headP (KDT x td.toInt.toNat) (NMT x td.toInt.toNat) k0 le.toInt.toNat = (b, q, some s) ∧ TOKA x td.toInt.toNat (pT x td.toInt.toNat b) fr to so wo ∧ le1.toInt = (q : Int) ∧ ((s = none ∧ 2 ≤ hd) ∨ ∃ d, s = some d ∧ hd < 2 ∧ MC op ar co.toInt.toNat co1.toInt.toNat d) ∧ k0 < b ∧ b ≤ td.toInt.toNat ∧ co1.toInt + (k0 : Int) ≤ co.toInt + (b : Int)
theorem hdx_k (H : HDX x td co le k0 hd bd fr to so wo op1 ar1 co1 le1) (hb : bd.toInt = 0) : ∃ b : Nat, HDB x td co le k0 hd fr to so wo op1 ar1 co1 le1 b ∧ TOKA x td.toInt.toNat (pT x td.toInt.toNat b) fr to so wo ∧ k0 < b ∧ b ≤ td.toInt.toNat ∧ co1.toInt + (k0 : Int) ≤ co.toInt + (b : Int) := by
  have z := H.2
  match h : headP (KDT x td.toInt.toNat) (NMT x td.toInt.toNat) k0 le.toInt.toNat with
  | (b, q, none) =>
    rw [h] at z
    have z1 : bd.toInt = 1 := z.1
    omega
  | (b, q, some s) =>
    rw [h] at z
    obtain ⟨g1, g2, g3, g4, g5, g6, g7⟩ := z
    exact ⟨b, ⟨q, s, h, g2, g3, g4, g5, g6, g7⟩, g2, g5, g6, g7⟩
/-- with a test -/
theorem clx_1t {b : Nat} {h gt fr2 to2 so2 bd2 : Int32} {wo2 : Int64} {op2 ar2 : Nat → Int32} {co2 le2 : Int32} (hn : nc.toInt < 12) (H : HDX x td co le k0 hd bd fr to so wo op1 ar1 co1 le1) (B : HDB x td co le k0 hd fr to so wo op1 ar1 co1 le1 b) (hg : gt.toInt = 1) (hc : 0 ≤ co1.toInt) (hk : KDT x td.toInt.toNat b = 260) (E : EXR x td gt (b + 1) op1 ar1 co1 le1 bd2 fr2 to2 so2 wo2 op2 ar2 co2 le2) (N : nl' (8 * nc.toInt.toNat) = h ∧ nl' (8 * nc.toInt.toNat + 3) = co ∧ nl' (8 * nc.toInt.toNat + 4) = co1 ∧ nl' (8 * nc.toInt.toNat + 5) = co1 ∧ nl' (8 * nc.toInt.toNat + 6) = co2) (eh : h.toInt = hd) : CLX x td nc co le k0 bd2 fr2 to2 so2 wo2 op2 ar2 nl' co2 le2 := by
  obtain ⟨q, s, g0, g2, g3, g4, g5, g6, g7⟩ := B
  obtain ⟨n0, n3, n4, n5, n6⟩ := N
  unfold CLX
  rw [clsM_un hn H.1, g0]
  show SpS _ _ (ifP (KDT x td.toInt.toNat) (NMT x td.toInt.toNat) hd s b q)
  unfold ifP
  rw [if_pos hk]
  unfold EXR at E
  rw [if_pos hg, show le1.toInt.toNat = q by omega] at E
  refine sp_rb E (fun a h => h) (fun b2 q2 t u => ?_)
  obtain ⟨u1, u2, u3, u4, u5, u6, u7, u8, u9⟩ := u
  refine ⟨u1, u2, u3, ⟨by rw [n0]; exact eh, ?_, Or.inr ⟨t, rfl, u4 hg, by rw [n5, n6]; exact u8⟩⟩, by omega, u6, by omega⟩
  rw [n3, n4]
  rcases g4 with y | ⟨d, y1, y2, y3⟩
  · exact Or.inl y
  · refine Or.inr ⟨d, y1, y2, mc_congr y3 (fun j _ hj => u7.2 j ?_)⟩
    exact hj
end CLXS
/-- a clause stays when what stands before stays -/
theorem clm_k {op ar nl op' ar' nl' : Nat → Int32} {k : Nat} {m : Int} {c : CLT} (h : CLM op ar nl k c) (e : ∀ j : Nat, k ≤ j → j < k + 8 → nl' j = nl j) (g : KP op ar op' ar' m) (h4 : (nl (k + 4)).toInt ≤ m) (h6 : (nl (k + 6)).toInt ≤ m) : CLM op' ar' nl' k c := by
  obtain ⟨c0, c1, c2⟩ := h
  refine ⟨by rw [e k (by omega) (by omega)]; exact c0, ?_, ?_⟩
  · rw [e (k + 3) (by omega) (by omega), e (k + 4) (by omega) (by omega)]
    rcases c1 with y | ⟨d, y1, y2, y3⟩
    · exact Or.inl y
    · exact Or.inr ⟨d, y1, y2, mc_congr y3 (fun j _ hj => g j (by omega))⟩
  · rw [e (k + 5) (by omega) (by omega), e (k + 6) (by omega) (by omega)]
    rcases c2 with y | ⟨t, y1, y2, y3⟩
    · exact Or.inl y
    · exact Or.inr ⟨t, y1, y2, mc_congr y3 (fun j _ hj => g j (by omega))⟩
/-- the clauses read so far, each in its place -/
def LCM (op ar nl : Nat → Int32) (L : List CLT) : Prop := ∀ (j : Nat) (c : CLT), L[j]? = some c → CLM op ar nl (8 * j) c
theorem lcm_k {op ar nl op' ar' nl' : Nat → Int32} {n m : Int} {L : List CLT} (h : LCM op ar nl L) (W : LWJ nl op ar n m) (hl : (L.length : Int) = n) (e : ∀ j : Nat, (j : Int) < 8 * n → nl' j = nl j) (g : KP op ar op' ar' m) : LCM op' ar' nl' L := by
  intro j c hj
  have z : j < L.length := by
    rcases Nat.lt_or_ge j L.length with y | y
    · exact y
    · rw [List.getElem?_eq_none y] at hj; cases hj
  have w := W j (by omega)
  unfold clN at w
  obtain ⟨w0, w3, w4, w5, w6, _⟩ := w
  exact clm_k (h j c hj) (fun i h1 h2 => e i (by omega)) g (by omega) (by omega)
theorem lcm_S {op ar nl : Nat → Int32} {L : List CLT} {c : CLT} (h : LCM op ar nl L) (C : CLM op ar nl (8 * L.length) c) : LCM op ar nl (L ++ [c]) := by
  intro j d hj
  by_cases q : j < L.length
  · rw [List.getElem?_append_left q] at hj; exact h j d hj
  · rw [List.getElem?_append_right (by omega)] at hj
    have z : j - L.length = 0 := by
      rcases Nat.eq_zero_or_pos (j - L.length) with y | y
      · exact y
      · rw [List.getElem?_eq_none (by rw [List.length_singleton]; omega)] at hj; cases hj
    rw [z] at hj
    have e : c = d := Option.some.inj hj
    rw [← e, show j = L.length by omega]; exact C
/-- a law, as far as it is read: behind a clause (before the token k), or bad -/
def LXB (x : Nat → Int32) (td : Int32) (nl op ar : Nat → Int32) (nc co le fr to so : Int32) (wo : Int64) (k : Nat) : Prop := ∃ L : List CLT, TOKA x td.toInt.toNat (pT x td.toInt.toNat k) fr to so wo ∧ (L.length : Int) = nc.toInt ∧ nc.toInt ≤ 12 ∧ LCM op ar nl L ∧ LAWX x td.toInt.toNat = lawA (KDT x td.toInt.toNat) (NMT x td.toInt.toNat) (12 - L.length) k le.toInt.toNat L ∧ 1 ≤ k ∧ k ≤ td.toInt.toNat ∧ co.toInt ≤ (k : Int)
def LXS (x : Nat → Int32) (td : Int32) (nl op ar : Nat → Int32) (nc co le bd fr to so : Int32) (wo : Int64) : Prop := (bd.toInt = 0 ∧ ∃ k : Nat, LXB x td nl op ar nc co le fr to so wo k) ∨ (bd.toInt = 1 ∧ ∃ k q : Nat, LAWX x td.toInt.toNat = (k, q, none) ∧ TOKA x td.toInt.toNat (pT x td.toInt.toNat k) fr to so wo)
section LXSS
variable {x : Nat → Int32} {td : Int32} {nl op ar nl' op' ar' : Nat → Int32} {nc co le bd fr to so nc' co' le' bd' fr' to' so' : Int32} {wo wo' : Int64}
theorem lxs_1 {k0 : Nat} {L : List CLT} (hL : (L.length : Int) = nc.toInt) (hn : nc.toInt ≤ 12) (en : bd'.toInt = 0 → nc'.toInt = nc.toInt + 1) (h0 : 0 ≤ le'.toInt) (C : CLX x td nc co le k0 bd' fr' to' so' wo' op' ar' nl' co' le') (K : bd'.toInt = 0 → LCM op' ar' nl' L) (hc : co.toInt ≤ (k0 : Int)) (e : LAWX x td.toInt.toNat = lawL (KDT x td.toInt.toNat) (NMT x td.toInt.toNat) (12 - L.length) k0 le.toInt.toNat L) : LXS x td nl' op' ar' nc' co' le' bd' fr' to' so' wo' := by
  unfold CLX clsM at C
  by_cases q : nc.toInt < 12
  · rw [if_pos q] at C
    rw [show 12 - L.length = (11 - L.length) + 1 by omega, lawL_S] at e
    match h : clsP (KDT x td.toInt.toNat) (NMT x td.toInt.toNat) k0 le.toInt.toNat with
    | (b, q2, none) =>
      rw [h] at C e
      exact Or.inr ⟨C.1, b, q2, e, C.2⟩
    | (b, q2, some c) =>
      rw [h] at C e
      obtain ⟨g1, g2, g3, g4, g5, g6, g7⟩ := C
      have el : le'.toInt.toNat = q2 := by omega
      have e9 := en g1
      refine Or.inl ⟨g1, b, L ++ [c], g2, ?_, by omega, lcm_S (K g1) (by rw [show 8 * L.length = 8 * nc.toInt.toNat by omega]; exact g4), ?_, by omega, g6, by omega⟩
      · rw [List.length_append, List.length_singleton]; omega
      · rw [e, el, List.length_append, List.length_singleton, show 12 - (L.length + 1) = 11 - L.length by omega]; rfl
  · rw [if_neg q] at C
    rw [show 12 - L.length = 0 by omega] at e
    exact Or.inr ⟨C.1, k0, le.toInt.toNat, e, C.2⟩
/-- the first clause -/
theorem lxs_0 {nl : Nat → Int32} (hn : nc.toInt = 0) (hco : co.toInt = 0) (hle : le.toInt = 0) (en : bd'.toInt = 0 → nc'.toInt = nc.toInt + 1) (h0 : 0 ≤ le'.toInt) (C : CLX x td nc co le 0 bd' fr' to' so' wo' op' ar' nl' co' le') : LXS x td nl' op' ar' nc' co' le' bd' fr' to' so' wo' := by
  refine lxs_1 (L := []) (by rw [hn]; rfl) (by omega) en h0 C (fun _ j c h => by cases h) (by omega) ?_
  rw [hle]; rfl
theorem lxs_k (H : LXS x td nl op ar nc co le bd fr to so wo) (hb : bd.toInt = 0) : ∃ k : Nat, LXB x td nl op ar nc co le fr to so wo k ∧ TOKA x td.toInt.toNat (pT x td.toInt.toNat k) fr to so wo ∧ k ≤ td.toInt.toNat ∧ co.toInt ≤ (k : Int) := by
  rcases H with ⟨_, k, B⟩ | ⟨y, _⟩
  · obtain ⟨L, h1, h2, h3, h4, h5, h6, h7, h8⟩ := id B
    exact ⟨k, B, h1, h7, h8⟩
  · omega
/-- the next one, behind its ';' -/
theorem lxs_S {k : Nat} (H : LXB x td nl op ar nc co le fr to so wo k) (W : LWJ nl op ar nc.toInt co.toInt) (hk : KDT x td.toInt.toNat k = 59) (en : bd'.toInt = 0 → nc'.toInt = nc.toInt + 1) (h0 : 0 ≤ le'.toInt) (C : CLX x td nc co le (k + 1) bd' fr' to' so' wo' op' ar' nl' co' le') (e : ∀ j : Nat, (j : Int) < 8 * nc.toInt → nl' j = nl j) (g : KP op ar op' ar' co.toInt) : LXS x td nl' op' ar' nc' co' le' bd' fr' to' so' wo' := by
  obtain ⟨L, h1, h2, h3, h4, h5, h6, h7, h8⟩ := H
  refine lxs_1 h2 h3 en h0 C (fun _ => lcm_k h4 W h2 e g) (by omega) ?_
  rw [h5]
  unfold lawA
  rw [if_pos hk]
/-- the end: all was read, or not -/
theorem lxs_end {k : Nat} (H : LXB x td nl op ar nc co le fr to so wo k) (hk : KDT x td.toInt.toNat k = 302) : ∃ L : List CLT, (LAWX x td.toInt.toNat).2.2 = some L ∧ (L.length : Int) = nc.toInt ∧ LCM op ar nl L := by
  obtain ⟨L, h1, h2, h3, h4, h5, h6, h7, h8⟩ := H
  refine ⟨L, ?_, h2, h4⟩
  rw [h5]
  unfold lawA
  rw [if_neg (by rw [hk]; decide), if_pos hk]
theorem lxs_out {k : Nat} (H : LXB x td nl op ar nc co le fr to so wo k) (h1 : KDT x td.toInt.toNat k ≠ 59) (h2 : KDT x td.toInt.toNat k ≠ 302) : (LAWX x td.toInt.toNat).2.2 = none ∧ fr.toInt = (pT x td.toInt.toNat (LAWX x td.toInt.toNat).1 : Int) := by
  obtain ⟨L, g1, _, _, _, g5, _⟩ := H
  rw [g5]
  unfold lawA
  rw [if_neg h1, if_neg h2]
  exact ⟨rfl, g1.1⟩
theorem lxs_bad (H : LXS x td nl op ar nc co le bd fr to so wo) (hb : bd.toInt = 1) : (LAWX x td.toInt.toNat).2.2 = none ∧ fr.toInt = (pT x td.toInt.toNat (LAWX x td.toInt.toNat).1 : Int) := by
  rcases H with ⟨y, _⟩ | ⟨_, k, q, h1, h2⟩
  · omega
  · rw [h1]; exact ⟨rfl, h2.1⟩
end LXSS
theorem k_lt {x : Nat → Int32} {n k : Nat} (h : n ≤ 400) (hk : KDT x n k ≠ 302) : k < n := by
  rcases Nat.lt_or_ge k n with y | y
  · exact y
  · exact absurd ((en_tape (x := x) h).2 k y) hk
theorem toka_b {x : Nat → Int32} {n : Nat} {z fr to so : Int32} {wo : Int64} (hz : z.toInt = 0) (h : TOKA x n (skT x n z.toInt.toNat) fr to so wo) : TOKA x n (pT x n 0) fr to so wo := by
  rw [hz] at h
  exact h
/-- a law stands in the model's row -/
def MLAW (ro : Nat → Int32) (i : Nat) (L : List CLT) : Prop := (ro (340 + 900 * i + 1)).toInt = (L.length : Int) ∧ LCM (fun k => ro (340 + 900 * i + 98 + 2 * k)) (fun k => ro (340 + 900 * i + 98 + 2 * k + 1)) (fun k => ro (340 + 900 * i + 2 + k)) L
/-- what reading a law does -/
def LAWM (x : Nat → Int32) (n : Nat) (ro ro' : Nat → Int32) (r fa fa' : Int32) : Prop := ((ro 2).toInt = 6 ∧ r.toInt = -5 ∧ ro' = ro ∧ fa' = fa) ∨ ((ro 2).toInt < 6 ∧ (LAWX x n).2.2 = none ∧ r.toInt = -6 ∧ ro' = ro ∧ fa'.toInt = (pT x n (LAWX x n).1 : Int)) ∨ ((ro 2).toInt < 6 ∧ ∃ L : List CLT, (LAWX x n).2.2 = some L ∧ r.toInt = (ro 2).toInt ∧ fa'.toInt = -1 ∧ (ro' 2).toInt = (ro 2).toInt + 1 ∧ MLAW ro' (ro 2).toInt.toNat L)
theorem mlaw_of {ro f1 f2 f3 cl op ar : Nat → Int32} {aw nc co k1 k2 x1 v : Int32} {L : List CLT} (hL : (L.length : Int) = nc.toInt) (h : LCM op ar cl L) (h0 : 0 ≤ (ro 2).toInt) (h6 : (ro 2).toInt < 6) (ha : aw.toInt = 340 + 900 * (ro 2).toInt) (e2 : ∀ j : Nat, (j : Int) < k1.toInt → f2 (aw.toNatClampNeg + 2 + j) = cl j) (e2' : ∀ j : Nat, (j < aw.toNatClampNeg + 2 ∨ aw.toNatClampNeg + 98 ≤ j) → f2 j = (upd ro x1.toNatClampNeg nc) j) (e3 : ∀ j : Nat, (j : Int) < k2.toInt → f3 (aw.toNatClampNeg + 98 + 2 * j) = op j ∧ f3 (aw.toNatClampNeg + 98 + 2 * j + 1) = ar j) (e3' : ∀ j : Nat, (j < aw.toNatClampNeg + 98 ∨ aw.toNatClampNeg + 900 ≤ j) → f3 j = f2 j) (hk1 : 8 * nc.toInt ≤ k1.toInt) (hk2 : co.toInt ≤ k2.toInt) (hx : x1 = aw + 1) (W : LWJ cl op ar nc.toInt co.toInt) (hnc : nc.toInt ≤ 12) : MLAW (upd f3 (2 : Int32).toNatClampNeg v) (ro 2).toInt.toNat L := by
  have ca := g5_clamp aw
  have x1e : x1.toInt = aw.toInt + 1 := by rw [hx]; exact g5_iadd rfl (by decide) (by omega) (by omega)
  have cx := g5_clamp x1
  have c2 : (2 : Int32).toNatClampNeg = 2 := by decide
  have eA : 340 + 900 * (ro 2).toInt.toNat = aw.toNatClampNeg := by omega
  refine ⟨?_, ?_⟩
  · rw [eA, upd_ne (by omega), e3' _ (by omega), e2' _ (by omega), show aw.toNatClampNeg + 1 = x1.toNatClampNeg by omega, upd_eq]
    exact hL.symm
  · rw [eA]
    intro j c hj
    have z : j < L.length := by
      rcases Nat.lt_or_ge j L.length with y | y
      · exact y
      · rw [List.getElem?_eq_none y] at hj; cases hj
    have w := W j (by omega)
    unfold clN at w
    obtain ⟨w0, w3, w4, w5, w6, _⟩ := w
    refine clm_k (m := co.toInt) (h j c hj) (fun i h1 h2 => ?_) (fun i hi => ?_) (by omega) (by omega)
    · show upd f3 _ v (aw.toNatClampNeg + 2 + i) = cl i
      rw [upd_ne (by omega), e3' _ (by omega)]
      exact e2 i (by omega)
    · have q := e3 i (by omega)
      refine ⟨?_, ?_⟩
      · show upd f3 _ v (aw.toNatClampNeg + 98 + 2 * i) = op i
        rw [upd_ne (by omega)]; exact q.1
      · show upd f3 _ v (aw.toNatClampNeg + 98 + 2 * i + 1) = ar i
        rw [upd_ne (by omega)]; exact q.2
/-! the judge: code run with just the room that it needs -/
theorem goM_fuel {z : Bool} {op ar : Nat → Int32} {q : Nat → Int64} {last : Nat} : ∀ (f1 f2 k n : Nat) (st : Nat → Int64), last ≤ k + f1 → last ≤ k + f2 → goM z op ar q last f1 k n st = goM z op ar q last f2 k n st := by
  intro f1
  induction f1 with
  | zero =>
    intro f2 k n st h1 h2
    cases f2 with
    | zero => rfl
    | succ g =>
      show some (n, st) = (if k < last then _ else some (n, st))
      rw [if_neg (by omega)]
  | succ f ih =>
    intro f2 k n st h1 h2
    cases f2 with
    | zero =>
      show (if k < last then _ else some (n, st)) = some (n, st)
      rw [if_neg (by omega)]
    | succ g =>
      show (if k < last then _ else some (n, st)) = (if k < last then _ else some (n, st))
      by_cases hk : k < last
      · rw [if_pos hk, if_pos hk]
        by_cases h20 : (op k).toInt < 20
        · rw [if_pos h20, if_pos h20]
          by_cases c : z = true ∧ 50 ≤ n
          · rw [if_pos c, if_pos c]
          · rw [if_neg c, if_neg c]; exact ih _ _ _ _ (by omega) (by omega)
        · rw [if_neg h20, if_neg h20]
          by_cases h27 : (op k).toInt < 27
          · rw [if_pos h27, if_pos h27]
            by_cases c : z = true ∧ n < 2
            · rw [if_pos c, if_pos c]
            · rw [if_neg c, if_neg c]
              cases bo (op k).toInt (st (n - 2)) (st (n - 1)) with
              | none => rfl
              | some v => exact ih _ _ _ _ (by omega) (by omega)
          · rw [if_neg h27, if_neg h27]
            by_cases c : z = true ∧ n < 1
            · rw [if_pos c, if_pos c]
            · rw [if_neg c, if_neg c]
              by_cases h7 : (op k).toInt = 27
              · rw [if_pos h7, if_pos h7]; exact ih _ _ _ _ (by omega) (by omega)
              · rw [if_neg h7, if_neg h7]
                by_cases h9 : (op k).toInt ≤ 29
                · rw [if_pos h9, if_pos h9]
                  by_cases j : jpB z (op k).toInt (st (n - 1)) = true
                  · rw [if_pos j, if_pos j]; exact ih _ _ _ _ (by omega) (by omega)
                  · rw [if_neg j, if_neg j]; exact ih _ _ _ _ (by omega) (by omega)
                · rw [if_neg h9, if_neg h9]
                  by_cases e : st (n - 1) = 0
                  · rw [if_pos e, if_pos e]
                  · rw [if_neg e, if_neg e]; exact ih _ _ _ _ (by omega) (by omega)
      · rw [if_neg hk, if_neg hk]
def goE (z : Bool) (op ar : Nat → Int32) (q : Nat → Int64) (last k n : Nat) (st : Nat → Int64) : Option (Nat × (Nat → Int64)) := goM z op ar q last (last - k) k n st
section GOE
variable {z : Bool} {op ar : Nat → Int32} {q : Nat → Int64} {last k n : Nat} {st : Nat → Int64}
theorem goE_end (h : last ≤ k) : goE z op ar q last k n st = some (n, st) := by
  unfold goE
  rw [show last - k = 0 by omega]; rfl
theorem goM_E {f : Nat} (h : last ≤ k + f) : goM z op ar q last f k n st = goE z op ar q last k n st := goM_fuel _ _ _ _ _ h (by omega)
theorem goE_leaf (h : k < last) (h20 : (op k).toInt < 20) (c : z = true → n < 50) : goE z op ar q last k n st = goE z op ar q last (k + 1) (n + 1) (vp_updL st n (if (op k).toInt = 0 then (ar k).toInt64 else q ((op k).toInt - 1).toNat)) := by
  unfold goE
  rw [show last - k = (last - (k + 1)) + 1 by omega]
  show (if k < last then _ else _) = _
  rw [if_pos h, if_pos h20, if_neg (fun y => by have u := c y.1; omega)]
theorem goE_full (h : k < last) (h20 : (op k).toInt < 20) (c : z = true ∧ 50 ≤ n) : goE z op ar q last k n st = none := by
  unfold goE
  rw [show last - k = (last - (k + 1)) + 1 by omega]
  show (if k < last then _ else _) = _
  rw [if_pos h, if_pos h20, if_pos c]
theorem goE_few2 (h : k < last) (h20 : 20 ≤ (op k).toInt ∧ (op k).toInt < 27) (c : z = true ∧ n < 2) : goE z op ar q last k n st = none := by
  unfold goE
  rw [show last - k = (last - (k + 1)) + 1 by omega]
  show (if k < last then _ else _) = _
  rw [if_pos h, if_neg (by omega), if_pos h20.2, if_pos c]
theorem goE_bin0 (h : k < last) (h20 : 20 ≤ (op k).toInt ∧ (op k).toInt < 27) (e : bo (op k).toInt (st (n - 2)) (st (n - 1)) = none) : goE z op ar q last k n st = none := by
  unfold goE
  rw [show last - k = (last - (k + 1)) + 1 by omega]
  show (if k < last then _ else _) = _
  rw [if_pos h, if_neg (by omega), if_pos h20.2]
  by_cases c : z = true ∧ n < 2
  · rw [if_pos c]
  · rw [if_neg c, e]
theorem goE_bin1 {v : Int64} (h : k < last) (h20 : 20 ≤ (op k).toInt ∧ (op k).toInt < 27) (c : z = true → 2 ≤ n) (e : bo (op k).toInt (st (n - 2)) (st (n - 1)) = some v) : goE z op ar q last k n st = goE z op ar q last (k + 1) (n - 1) (vp_updL st (n - 2) v) := by
  unfold goE
  rw [show last - k = (last - (k + 1)) + 1 by omega]
  show (if k < last then _ else _) = _
  rw [if_pos h, if_neg (by omega), if_pos h20.2, if_neg (fun y => by have u := c y.1; omega), e]
theorem goE_few1 (h : k < last) (h27 : 27 ≤ (op k).toInt) (c : z = true ∧ n < 1) : goE z op ar q last k n st = none := by
  unfold goE
  rw [show last - k = (last - (k + 1)) + 1 by omega]
  show (if k < last then _ else _) = _
  rw [if_pos h, if_neg (by omega), if_neg (by omega), if_pos c]
theorem goE_not (h : k < last) (h27 : (op k).toInt = 27) (c : z = true → 1 ≤ n) : goE z op ar q last k n st = goE z op ar q last (k + 1) n (vp_updL st (n - 1) (1 - st (n - 1))) := by
  unfold goE
  rw [show last - k = (last - (k + 1)) + 1 by omega]
  show (if k < last then _ else _) = _
  rw [if_pos h, if_neg (by omega), if_neg (by omega), if_neg (fun y => by have u := c y.1; omega), if_pos h27]
theorem goE_jmp1 {k' : Nat} (h : k < last) (h28 : 28 ≤ (op k).toInt ∧ (op k).toInt ≤ 29) (c : z = true → 1 ≤ n) (j : jpB z (op k).toInt (st (n - 1)) = true) (ek : k' = max (k + 1) (ar k).toInt.toNat) : goE z op ar q last k n st = goE z op ar q last k' n st := by
  rw [ek]
  rw [← goM_E (k := max (k + 1) (ar k).toInt.toNat) (f := last - (k + 1)) (by omega)]
  unfold goE
  rw [show last - k = (last - (k + 1)) + 1 by omega]
  show (if k < last then _ else _) = _
  rw [if_pos h, if_neg (by omega), if_neg (by omega), if_neg (fun y => by have u := c y.1; omega), if_neg (by omega), if_pos h28.2, if_pos j]
theorem goE_jmp0 (h : k < last) (h28 : 28 ≤ (op k).toInt ∧ (op k).toInt ≤ 29) (c : z = true → 1 ≤ n) (j : jpB z (op k).toInt (st (n - 1)) = false) : goE z op ar q last k n st = goE z op ar q last (k + 1) (n - 1) st := by
  unfold goE
  rw [show last - k = (last - (k + 1)) + 1 by omega]
  show (if k < last then _ else _) = _
  rw [if_pos h, if_neg (by omega), if_neg (by omega), if_neg (fun y => by have u := c y.1; omega), if_neg (by omega), if_pos h28.2, j]
  rfl
theorem goE_if0 (h : k < last) (h30 : 30 ≤ (op k).toInt) (e : st (n - 1) = 0) : goE z op ar q last k n st = none := by
  unfold goE
  rw [show last - k = (last - (k + 1)) + 1 by omega]
  show (if k < last then _ else _) = _
  rw [if_pos h, if_neg (by omega), if_neg (by omega)]
  by_cases c : z = true ∧ n < 1
  · rw [if_pos c]
  · rw [if_neg c, if_neg (by omega), if_neg (by omega), if_pos e]
theorem goE_if1 (h : k < last) (h30 : 30 ≤ (op k).toInt) (c : z = true → 1 ≤ n) (e : st (n - 1) ≠ 0) : goE z op ar q last k n st = goE z op ar q last (k + 1) (n - 1) st := by
  unfold goE
  rw [show last - k = (last - (k + 1)) + 1 by omega]
  show (if k < last then _ else _) = _
  rw [if_pos h, if_neg (by omega), if_neg (by omega), if_neg (fun y => by have u := c y.1; omega), if_neg (by omega), if_neg (by omega), if_neg e]
/-- a segment that computes -/
theorem mc_run {a b : Nat} {d : DS} (h : MC op ar a b d) (hb : b ≤ last) (hz : z = true → n + lvS op a b ≤ 50) : (d q = none → goE z op ar q last a n st = none) ∧ ∀ v, d q = some v → ∃ st' : Nat → Int64, (∀ i : Nat, i < n → st' i = st i) ∧ st' n = v ∧ goE z op ar q last a n st = goE z op ar q last b (n + 1) st' := by
  have ha := h.1
  obtain ⟨h1, h2⟩ := h.2.2 op ar (fun _ _ _ => ⟨rfl, rfl⟩) z q last n st (last - a) hb (by omega) hz
  refine ⟨h1, fun v hv => ?_⟩
  obtain ⟨st1, f1, g1, g2, g3, g4⟩ := h2 v hv
  exact ⟨st1, g2, g3, g4.trans (goM_E g1)⟩
theorem lvS_le {a b : Nat} (h : a ≤ b) : lvM op 0 a + lvS op a b = lvM op 0 b := by
  have z := lvM_add (op := op) (a := 0) (n := a) (b - a)
  rw [show a + (b - a) = b by omega, Nat.zero_add] at z
  unfold lvS; omega
theorem lvM_mono {a b : Nat} (h : a ≤ b) : lvM op 0 a ≤ lvM op 0 b := by
  have z := lvS_le (op := op) h
  omega
end GOE
/-- a clause of the class's law -/
theorem clc_run {rc : Nat → Int32} {l l' : Nat} {c : CLT} {q st : Nat → Int64} (h : CLC rc l l' c) (hl : lvC rc l' ≤ 50) : (clH c q = none → goE true (opC rc) (arC rc) q l' l 0 st = none) ∧ ∀ v, clH c q = some v → ∃ (n' : Nat) (st' : Nat → Int64), goE true (opC rc) (arC rc) q l' l 0 st = some (n', st') ∧ (c.1 < 2 → st' 0 = v) := by
  obtain ⟨hd, s, t⟩ := c
  obtain ⟨m, h1, h2⟩ := h
  have h1 : (s = none ∧ 2 ≤ hd ∧ m = l) ∨ ∃ d, s = some d ∧ hd < 2 ∧ MCC rc l m d := h1
  have h2 : (t = none ∧ l' = m) ∨ ∃ (t9 : DS) (k : Nat), t = some t9 ∧ is01 t9 ∧ MCC rc m k t9 ∧ l' = k + 1 ∧ (opT (rc k)).toInt = 30 := h2
  have hl : lvM (opC rc) 0 l' ≤ 50 := hl
  rcases h2 with ⟨e2, e3⟩ | ⟨t9, k, e2, e3, e4, e5, e6⟩
  · subst e2; subst e3
    rcases h1 with ⟨e1, e4, e5⟩ | ⟨d, e1, e4, e5⟩
    · subst e1; subst e5
      refine ⟨fun z => (by cases z), fun v hv => ⟨0, st, goE_end (Nat.le_refl _), fun z => ?_⟩⟩
      have z : hd < 2 := z
      omega
    · subst e1
      have L := lvS_le (op := opC rc) e5.1
      obtain ⟨r1, r2⟩ := mc_run (z := true) (q := q) (last := l') (n := 0) (st := st) e5 (Nat.le_refl _) (fun _ => by omega)
      refine ⟨r1, fun v hv => ?_⟩
      obtain ⟨st', g1, g2, g3⟩ := r2 v hv
      exact ⟨1, st', g3.trans (goE_end (Nat.le_refl _)), fun _ => g2⟩
  · subst e2; subst e5
    have hk : k < k + 1 := Nat.lt_succ_self k
    have h30 : 30 ≤ (opC rc k).toInt := by
      have z : (opC rc k).toInt = 30 := e6
      omega
    have lk := lvM_mono (op := opC rc) (a := k) (b := k + 1) (by omega)
    have Lt := lvS_le (op := opC rc) e4.1
    rcases h1 with ⟨e1, e7, e8⟩ | ⟨d, e1, e7, e8⟩
    · subst e1; subst e8
      have hc : clH (hd, none, some t9) q = (t9 q).bind (fun v => if v = 0 then none else some 0) := rfl
      rw [hc]
      obtain ⟨r1, r2⟩ := mc_run (z := true) (q := q) (last := k + 1) (n := 0) (st := st) e4 (by omega) (fun _ => by omega)
      cases ht : t9 q with
      | none => exact ⟨fun _ => r1 ht, fun v hv => by cases hv⟩
      | some w =>
        obtain ⟨st', g1, g2, g3⟩ := r2 w ht
        have hb : (some w).bind (fun v : Int64 => if v = 0 then none else some (0 : Int64)) = if w = 0 then none else some 0 := rfl
        rw [hb]
        by_cases y : w = 0
        · rw [if_pos y]
          refine ⟨fun _ => g3.trans (goE_if0 hk h30 (by show st' 0 = 0; rw [g2]; exact y)), fun v hv => by cases hv⟩
        · rw [if_neg y]
          refine ⟨fun z => (by cases z), fun v hv => ⟨0, st', g3.trans ((goE_if1 hk h30 (fun _ => by omega) (by show st' 0 ≠ 0; rw [g2]; exact y)).trans (goE_end (Nat.le_refl _))), fun z => ?_⟩⟩
          have z : hd < 2 := z
          omega
    · subst e1
      have hc : clH (hd, some d, some t9) q = (t9 q).bind (fun v => if v = 0 then none else d q) := rfl
      rw [hc]
      have Ld := lvS_le (op := opC rc) e8.1
      have l1 := e8.2.1
      obtain ⟨r1, r2⟩ := mc_run (z := true) (q := q) (last := k + 1) (n := 0) (st := st) e8 (by have z := e4.1; omega) (fun _ => by have z := e4.1; have y := lvM_mono (op := opC rc) z; omega)
      cases hdq : d q with
      | none =>
        refine ⟨fun _ => r1 hdq, fun v hv => ?_⟩
        cases ht : t9 q with
        | none => rw [ht] at hv; cases hv
        | some w =>
          rw [ht] at hv
          have hv : (if w = 0 then none else none) = some v := hv
          by_cases y : w = 0
          · rw [if_pos y] at hv; cases hv
          · rw [if_neg y] at hv; cases hv
      | some x =>
        obtain ⟨st1, g1, g2, g3⟩ := r2 x hdq
        obtain ⟨s1, s2⟩ := mc_run (z := true) (q := q) (last := k + 1) (n := 0 + 1) (st := st1) e4 (by omega) (fun _ => by omega)
        cases ht : t9 q with
        | none => exact ⟨fun _ => g3.trans (s1 ht), fun v hv => by cases hv⟩
        | some w =>
          obtain ⟨st2, k1, k2, k3⟩ := s2 w ht
          have hb : (some w).bind (fun v : Int64 => if v = 0 then none else some x) = if w = 0 then none else some x := rfl
          rw [hb]
          by_cases y : w = 0
          · rw [if_pos y]
            refine ⟨fun _ => g3.trans (k3.trans (goE_if0 hk h30 (by show st2 1 = 0; rw [k2]; exact y))), fun v hv => by cases hv⟩
          · rw [if_neg y]
            refine ⟨fun z => (by cases z), fun v hv => ⟨1, st2, g3.trans (k3.trans ((goE_if1 hk h30 (fun _ => by omega) (by show st2 1 ≠ 0; rw [k2]; exact y)).trans (goE_end (Nat.le_refl _)))), fun _ => ?_⟩⟩
            rw [k1 0 (by omega), g2]; exact Option.some.inj hv
/-- the model's reckoning: broken, or what stands lowest -/
def RKM (op ar : Nat → Int32) (q : Nat → Int64) (a b : Nat) (st : Nat → Int64) (bk : Int32) (va : Int64) : Prop := (bk.toInt = 1 ∧ goE false op ar q b a 0 st = none) ∨ (bk.toInt = 0 ∧ ∃ (n : Nat) (st' : Nat → Int64), goE false op ar q b a 0 st = some (n, st') ∧ va = if 0 < n then st' 0 else 0)
theorem rk_mc {op ar : Nat → Int32} {q st : Nat → Int64} {a b : Nat} {d : DS} {bk : Int32} {va : Int64} (h : MC op ar a b d) (r : RKM op ar q a b st bk va) : (d q = none ∧ bk.toInt = 1) ∨ ∃ v, d q = some v ∧ bk.toInt = 0 ∧ va = v := by
  obtain ⟨r1, r2⟩ := mc_run (z := false) (q := q) (last := b) (n := 0) (st := st) h (Nat.le_refl _) (fun z => by cases z)
  cases hd : d q with
  | none =>
    rcases r with ⟨e1, e2⟩ | ⟨e1, n, st', e2, e3⟩
    · exact Or.inl ⟨rfl, e1⟩
    · rw [r1 hd] at e2; cases e2
  | some v =>
    obtain ⟨st1, g1, g2, g3⟩ := r2 v hd
    have g4 := g3.trans (goE_end (Nat.le_refl _))
    rcases r with ⟨e1, e2⟩ | ⟨e1, n, st', e2, e3⟩
    · rw [e2] at g4; cases g4
    · rw [e2] at g4
      have g5 := Option.some.inj g4
      have g6 : n = 0 + 1 := congrArg Prod.fst g5
      have g7 : st' = st1 := congrArg Prod.snd g5
      refine Or.inr ⟨v, rfl, e1, ?_⟩
      rw [e3, g6, if_pos (by omega), g7]; exact g2
/-! two numbers made one -/
def bop (o : Int) : Int := if o < 2 then 26 else if o ≤ 8 then o + 18 else 26
theorem bn_20 {o : Int} {a b : Int64} (h : o = 20) : bv o a b = a + b := by subst h; unfold bv; rw [if_pos (by omega)]
theorem bn_21 {o : Int} {a b : Int64} (h : o = 21) : bv o a b = a - b := by subst h; unfold bv; rw [if_neg (by omega), if_pos (by omega)]
theorem bn_22 {o : Int} {a b : Int64} (h : o = 22) : bv o a b = a * b := by subst h; unfold bv; rw [if_neg (by omega), if_neg (by omega), if_pos (by omega)]
theorem bn_23 {o : Int} {a b : Int64} (h : o = 23) : bv o a b = a / b := by subst h; unfold bv; rw [if_neg (by omega), if_neg (by omega), if_neg (by omega), if_pos (by omega)]
theorem bv_2 {o : Int} {a b : Int64} (h : o = 2) : bv (bop o) a b = a + b := by subst h; exact bn_20 (by decide)
theorem bv_3 {o : Int} {a b : Int64} (h : o = 3) : bv (bop o) a b = a - b := by subst h; exact bn_21 (by decide)
theorem bv_4 {o : Int} {a b : Int64} (h : o = 4) : bv (bop o) a b = a * b := by subst h; exact bn_22 (by decide)
theorem bv_5 {o : Int} {a b : Int64} (h : o = 5) : bv (bop o) a b = a / b := by subst h; exact bn_23 (by decide)
theorem bv_24 {o : Int} {a b : Int64} (h : o = 24) : bv o a b = if a < b then 1 else 0 := by
  subst h; unfold bv; rw [if_neg (by omega), if_neg (by omega), if_neg (by omega), if_neg (by omega), if_pos (by omega)]
theorem bv_25 {o : Int} {a b : Int64} (h : o = 25) : bv o a b = if b < a then 1 else 0 := by
  subst h; unfold bv; rw [if_neg (by omega), if_neg (by omega), if_neg (by omega), if_neg (by omega), if_neg (by omega), if_pos (by omega)]
theorem bv_26 {o : Int} {a b : Int64} (h : 26 ≤ o) : bv o a b = if a = b then 1 else 0 := by
  unfold bv; rw [if_neg (by omega), if_neg (by omega), if_neg (by omega), if_neg (by omega), if_neg (by omega), if_neg (by omega)]
theorem bop_6 {o : Int} (h : o = 6) : bop o = 24 := by subst h; decide
theorem bop_7 {o : Int} (h : o = 7) : bop o = 25 := by subst h; decide
theorem bop_8 {o : Int} (h : o < 2 ∨ 8 ≤ o) : bop o = 26 := by
  unfold bop
  by_cases q : o < 2
  · rw [if_pos q]
  · rw [if_neg q]
    by_cases q2 : o ≤ 8
    · rw [if_pos q2]; omega
    · rw [if_neg q2]
theorem bop_n5 {o : Int} {b : Int64} (h : o ≠ 5) : bop o = 23 → b ≠ 0 := by
  intro e
  unfold bop at e
  by_cases q : o < 2
  · rw [if_pos q] at e; omega
  · rw [if_neg q] at e
    by_cases q2 : o ≤ 8
    · rw [if_pos q2] at e; omega
    · rw [if_neg q2] at e; omega
theorem bv_lt1 {o : Int} {a b : Int64} (h : o = 24) (c : (lg_cmp a b).toInt < 0) : bv o a b = 1 := by
  rw [bv_24 h, if_pos]
  have z := g5_cmpI a b
  exact Int64.lt_iff_toInt_lt.mpr (by omega)
theorem bv_lt0 {o : Int} {a b : Int64} (h : o = 24) (c : 0 ≤ (lg_cmp a b).toInt) : bv o a b = 0 := by
  rw [bv_24 h, if_neg]
  have z := g5_cmpI a b
  exact fun q => by have y := Int64.lt_iff_toInt_lt.mp q; omega
theorem bv_gt1 {o : Int} {a b : Int64} (h : o = 25) (c : 0 < (lg_cmp a b).toInt) : bv o a b = 1 := by
  rw [bv_25 h, if_pos]
  have z := g5_cmpI a b
  exact Int64.lt_iff_toInt_lt.mpr (by omega)
theorem bv_gt0 {o : Int} {a b : Int64} (h : o = 25) (c : (lg_cmp a b).toInt ≤ 0) : bv o a b = 0 := by
  rw [bv_25 h, if_neg]
  have z := g5_cmpI a b
  exact fun q => by have y := Int64.lt_iff_toInt_lt.mp q; omega
theorem bv_eq1 {o : Int} {a b : Int64} (h : 26 ≤ o) (c : (lg_cmp a b).toInt = 0) : bv o a b = 1 := by
  rw [bv_26 h, if_pos]
  have z := g5_cmpI a b
  exact Int64.toInt_inj.mp (by omega)
theorem bv_eq0 {o : Int} {a b : Int64} (h : 26 ≤ o) (c : (lg_cmp a b).toInt ≠ 0) : bv o a b = 0 := by
  rw [bv_26 h, if_neg]
  have z := g5_cmpI a b
  exact fun q => by rw [q] at z c; omega
theorem cb_1 {o : Int} {a b v : Int64} (hv : bv o a b = v) (h : o = 23 → b ≠ 0) (h1 : 0 ≤ (lg_cmp v (-1000000000)).toInt) (h2 : (lg_cmp v 1000000000).toInt ≤ 0) : bo o a b = some v := by
  unfold bo
  have z1 := g5_cmpI v (-1000000000)
  have z2 := g5_cmpI v 1000000000
  have e1 : (-1000000000 : Int64).toInt = -1000000000 := by decide
  have e2 : (1000000000 : Int64).toInt = 1000000000 := by decide
  rw [if_neg (fun q => h q.1 q.2), hv, if_pos ⟨by omega, by omega⟩]
theorem cb_0 {o : Int} {a b v : Int64} (hv : bv o a b = v) (h : (lg_cmp v (-1000000000)).toInt < 0 ∨ 0 < (lg_cmp v 1000000000).toInt) : bo o a b = none := by
  unfold bo
  have z1 := g5_cmpI v (-1000000000)
  have z2 := g5_cmpI v 1000000000
  have e1 : (-1000000000 : Int64).toInt = -1000000000 := by decide
  have e2 : (1000000000 : Int64).toInt = 1000000000 := by decide
  rw [hv]
  by_cases q : o = 23 ∧ b = 0
  · rw [if_pos q]
  · rw [if_neg q, if_neg (fun y => by omega)]
theorem cb_d {o : Int} {a b : Int64} (h : o = 23) (c : (lg_cmp b 0).toInt = 0) : bo o a b = none := by
  unfold bo
  have z := g5_cmpI b 0
  have e : b = 0 := Int64.toInt_inj.mp (by omega)
  rw [if_pos ⟨h, e⟩]
theorem ne_z {b : Int64} (c : (lg_cmp b 0).toInt ≠ 0) : b ≠ 0 := by
  intro e
  subst e
  exact c (by decide)
theorem eq_z {b : Int64} (c : (lg_cmp b 0).toInt = 0) : b = 0 := by
  have z := g5_cmpI b 0
  exact Int64.toInt_inj.mp (by omega)
/-! what the class's word says -/
section OPTS
variable {w : Int32}
theorem ot_0 (h : (w >>> (12 &&& 31)).toInt = 0) : (opT w).toInt = 0 := by
  unfold opT; rw [if_pos h]; decide
theorem ot_1 (h : (w >>> (12 &&& 31)).toInt = 1) (h7 : 0 ≤ (w &&& 4095).toInt ∧ (w &&& 4095).toInt < 8) : (opT w).toInt = (w &&& 4095).toInt + 1 := by
  unfold opT; rw [if_neg (by omega), if_pos h]
  exact g5_iadd rfl (by decide) (by omega) (by omega)
theorem ot_b (h : (w >>> (12 &&& 31)).toInt ≤ 8) (h0 : (w >>> (12 &&& 31)).toInt ≠ 0) (h1 : (w >>> (12 &&& 31)).toInt ≠ 1) : (opT w).toInt = bop (w >>> (12 &&& 31)).toInt ∧ 20 ≤ bop (w >>> (12 &&& 31)).toInt ∧ bop (w >>> (12 &&& 31)).toInt < 27 := by
  unfold opT bop
  rw [if_neg h0, if_neg h1, if_pos h]
  by_cases q : (w >>> (12 &&& 31)).toInt < 2
  · rw [if_pos q, if_pos q]; decide
  · rw [if_neg q, if_neg q, if_pos h]
    refine ⟨?_, by omega, by omega⟩
    exact g5_iadd rfl (by decide) (by omega) (by omega)
theorem ot_9 (h : (w >>> (12 &&& 31)).toInt = 9) : (opT w).toInt = 27 := by
  unfold opT; rw [if_neg (by omega), if_neg (by omega), if_neg (by omega), if_pos h]; decide
theorem ot_10 (h : (w >>> (12 &&& 31)).toInt = 10) : (opT w).toInt = 30 := by
  unfold opT; rw [if_neg (by omega), if_neg (by omega), if_neg (by omega), if_neg (by omega), if_pos h]; decide
theorem ot_11 (h : (w >>> (12 &&& 31)).toInt = 11) : (opT w).toInt = 29 := by
  unfold opT; rw [if_neg (by omega), if_neg (by omega), if_neg (by omega), if_neg (by omega), if_neg (by omega), if_pos h]; decide
theorem ot_12 (h : 8 < (w >>> (12 &&& 31)).toInt) (h9 : (w >>> (12 &&& 31)).toInt ≠ 9) (h10 : (w >>> (12 &&& 31)).toInt ≠ 10) (h11 : (w >>> (12 &&& 31)).toInt ≠ 11) : (opT w).toInt = 28 := by
  unfold opT; rw [if_neg (by omega), if_neg (by omega), if_neg (by omega), if_neg h9, if_neg h10, if_neg h11]; decide
end OPTS
/-! the class's judge, step by step -/
def GC (rc : Nat → Int32) (q : Nat → Int64) (e a n : Int32) (st : Nat → Int64) : Option (Nat × (Nat → Int64)) := goE true (opC rc) (arC rc) q e.toInt.toNat a.toInt.toNat n.toInt.toNat st
section GCS
variable {rc as_ : Nat → Int32} {q st st' : Nat → Int64} {e a a' n n' p p1 x : Int32} {v : Int64}
theorem gc_end (h : e.toInt ≤ a.toInt) : GC rc q e a n st = some (n.toInt.toNat, st) := goE_end (by omega)
theorem gc_num (hk : a.toInt < e.toInt) (h0 : 0 ≤ a.toInt ∧ 0 ≤ n.toInt) (ho : (rc a.toNatClampNeg >>> (12 &&& 31)).toInt = 0) (hn : n.toInt < 50) (ea : a'.toInt = a.toInt + 1) (en : n'.toInt = n.toInt + 1) (es : st' = vp_updL st n.toNatClampNeg (rc a.toNatClampNeg &&& 4095).toInt64) : GC rc q e a n st = GC rc q e a' n' st' := by
  have o0 : (opC rc a.toInt.toNat).toInt = 0 := ot_0 ho
  unfold GC
  rw [goE_leaf (by omega) (by omega) (fun _ => by omega), if_pos o0, es, show a'.toInt.toNat = a.toInt.toNat + 1 by omega, show n'.toInt.toNat = n.toInt.toNat + 1 by omega]
  rfl
theorem gc_word (hq : ∀ j : Nat, j < 8 → q j = (as_ j).toInt64) (hk : a.toInt < e.toInt) (h0 : 0 ≤ a.toInt ∧ 0 ≤ n.toInt) (ho : (rc a.toNatClampNeg >>> (12 &&& 31)).toInt = 1) (h7 : 0 ≤ (rc a.toNatClampNeg &&& 4095).toInt ∧ (rc a.toNatClampNeg &&& 4095).toInt < 8) (hn : n.toInt < 50) (ea : a'.toInt = a.toInt + 1) (en : n'.toInt = n.toInt + 1) (es : st' = vp_updL st n.toNatClampNeg (as_ (rc a.toNatClampNeg &&& 4095).toNatClampNeg).toInt64) : GC rc q e a n st = GC rc q e a' n' st' := by
  have o0 : (opC rc a.toInt.toNat).toInt = (rc a.toNatClampNeg &&& 4095).toInt + 1 := ot_1 ho h7
  unfold GC
  rw [goE_leaf (by omega) (by omega) (fun _ => by omega), if_neg (by omega), es, show a'.toInt.toNat = a.toInt.toNat + 1 by omega, show n'.toInt.toNat = n.toInt.toNat + 1 by omega, show ((opC rc a.toInt.toNat).toInt - 1).toNat = (rc a.toNatClampNeg &&& 4095).toInt.toNat by omega, hq _ (by omega)]
  rfl
theorem gc_full (hk : a.toInt < e.toInt) (h0 : 0 ≤ a.toInt ∧ 0 ≤ n.toInt) (ho : (rc a.toNatClampNeg >>> (12 &&& 31)).toInt = 0 ∨ ((rc a.toNatClampNeg >>> (12 &&& 31)).toInt = 1 ∧ 0 ≤ (rc a.toNatClampNeg &&& 4095).toInt ∧ (rc a.toNatClampNeg &&& 4095).toInt < 8)) (hn : 50 ≤ n.toInt) : GC rc q e a n st = none := by
  have o0 : (opC rc a.toInt.toNat).toInt < 20 := by
    rcases ho with h | ⟨h, h7⟩
    · have z : (opC rc a.toInt.toNat).toInt = 0 := ot_0 h
      omega
    · have z : (opC rc a.toInt.toNat).toInt = (rc a.toNatClampNeg &&& 4095).toInt + 1 := ot_1 h h7
      omega
  exact goE_full (by omega) o0 ⟨rfl, by omega⟩
theorem gc_bin1 (hk : a.toInt < e.toInt) (h0 : 0 ≤ a.toInt) (h8 : (rc a.toNatClampNeg >>> (12 &&& 31)).toInt ≤ 8) (hn0 : (rc a.toNatClampNeg >>> (12 &&& 31)).toInt ≠ 0) (hn1 : (rc a.toNatClampNeg >>> (12 &&& 31)).toInt ≠ 1) (hp : 0 ≤ p.toInt) (ep : n.toInt = p.toInt + 2) (ep1 : p1.toInt = p.toInt + 1) (E : bo (bop (rc a.toNatClampNeg >>> (12 &&& 31)).toInt) (st p.toNatClampNeg) (st p1.toNatClampNeg) = some v) (ea : a'.toInt = a.toInt + 1) (en : n'.toInt = n.toInt - 1) (es : st' = vp_updL st p.toNatClampNeg v) : GC rc q e a n st = GC rc q e a' n' st' := by
  obtain ⟨o1, o2, o3⟩ := ot_b h8 hn0 hn1
  have o1 : (opC rc a.toInt.toNat).toInt = _ := o1
  unfold GC
  rw [goE_bin1 (v := v) (by omega) ⟨by omega, by omega⟩ (fun _ => by omega) (by rw [o1, show n.toInt.toNat - 2 = p.toNatClampNeg by show _ = p.toInt.toNat; omega, show n.toInt.toNat - 1 = p1.toNatClampNeg by show _ = p1.toInt.toNat; omega]; exact E), es, show a'.toInt.toNat = a.toInt.toNat + 1 by omega, show n'.toInt.toNat = n.toInt.toNat - 1 by omega, show n.toInt.toNat - 2 = p.toNatClampNeg by show _ = p.toInt.toNat; omega]
theorem gc_bin0 (hk : a.toInt < e.toInt) (h0 : 0 ≤ a.toInt ∧ 0 ≤ n.toInt) (h8 : (rc a.toNatClampNeg >>> (12 &&& 31)).toInt ≤ 8) (hn0 : (rc a.toNatClampNeg >>> (12 &&& 31)).toInt ≠ 0) (hn1 : (rc a.toNatClampNeg >>> (12 &&& 31)).toInt ≠ 1) (ep : n.toInt = p.toInt + 2) (ep1 : p1.toInt = p.toInt + 1) (E : p.toInt < 0 ∨ bo (bop (rc a.toNatClampNeg >>> (12 &&& 31)).toInt) (st p.toNatClampNeg) (st p1.toNatClampNeg) = none) : GC rc q e a n st = none := by
  obtain ⟨o1, o2, o3⟩ := ot_b h8 hn0 hn1
  have o1 : (opC rc a.toInt.toNat).toInt = _ := o1
  by_cases hp : p.toInt < 0
  · exact goE_few2 (by omega) ⟨by omega, by omega⟩ ⟨rfl, by omega⟩
  · rcases E with E | E
    · omega
    · exact goE_bin0 (by omega) ⟨by omega, by omega⟩ (by rw [o1, show n.toInt.toNat - 2 = p.toNatClampNeg by show _ = p.toInt.toNat; omega, show n.toInt.toNat - 1 = p1.toNatClampNeg by show _ = p1.toInt.toNat; omega]; exact E)
theorem gc_few (hk : a.toInt < e.toInt) (h0 : 0 ≤ a.toInt ∧ 0 ≤ n.toInt) (h8 : 8 < (rc a.toNatClampNeg >>> (12 &&& 31)).toInt) (hn : n.toInt < 1) : GC rc q e a n st = none := by
  have o1 : 27 ≤ (opC rc a.toInt.toNat).toInt := by
    show 27 ≤ (opT (rc a.toNatClampNeg)).toInt
    by_cases h9 : (rc a.toNatClampNeg >>> (12 &&& 31)).toInt = 9
    · rw [ot_9 h9]; omega
    · by_cases h10 : (rc a.toNatClampNeg >>> (12 &&& 31)).toInt = 10
      · rw [ot_10 h10]; omega
      · by_cases h11 : (rc a.toNatClampNeg >>> (12 &&& 31)).toInt = 11
        · rw [ot_11 h11]; omega
        · rw [ot_12 h8 h9 h10 h11]; omega
  exact goE_few1 (by omega) o1 ⟨rfl, by omega⟩
theorem gc_not (hk : a.toInt < e.toInt) (h0 : 0 ≤ a.toInt) (h9 : (rc a.toNatClampNeg >>> (12 &&& 31)).toInt = 9) (hn : 1 ≤ n.toInt) (ep : p.toInt = n.toInt - 1) (ea : a'.toInt = a.toInt + 1) (es : st' = vp_updL st p.toNatClampNeg (1 - st p.toNatClampNeg)) : GC rc q e a n st = GC rc q e a' n st' := by
  have o1 : (opC rc a.toInt.toNat).toInt = 27 := ot_9 h9
  unfold GC
  rw [goE_not (by omega) o1 (fun _ => by omega), es, show a'.toInt.toNat = a.toInt.toNat + 1 by omega, show n.toInt.toNat - 1 = p.toNatClampNeg by show _ = p.toInt.toNat; omega]
theorem gc_if0 (hk : a.toInt < e.toInt) (h0 : 0 ≤ a.toInt) (h9 : (rc a.toNatClampNeg >>> (12 &&& 31)).toInt = 10) (hn : 1 ≤ n.toInt) (ep : p.toInt = n.toInt - 1) (c : (lg_cmp (st p.toNatClampNeg) 0).toInt = 0) : GC rc q e a n st = none := by
  have o1 : (opC rc a.toInt.toNat).toInt = 30 := ot_10 h9
  exact goE_if0 (by omega) (by omega) (by rw [show n.toInt.toNat - 1 = p.toNatClampNeg by show _ = p.toInt.toNat; omega]; exact eq_z c)
theorem gc_if1 (hk : a.toInt < e.toInt) (h0 : 0 ≤ a.toInt) (h9 : (rc a.toNatClampNeg >>> (12 &&& 31)).toInt = 10) (hn : 1 ≤ n.toInt) (ep : p.toInt = n.toInt - 1) (c : (lg_cmp (st p.toNatClampNeg) 0).toInt ≠ 0) (ea : a'.toInt = a.toInt + 1) (en : n'.toInt = n.toInt - 1) : GC rc q e a n st = GC rc q e a' n' st := by
  have o1 : (opC rc a.toInt.toNat).toInt = 30 := ot_10 h9
  unfold GC
  rw [goE_if1 (by omega) (by omega) (fun _ => by omega) (by rw [show n.toInt.toNat - 1 = p.toNatClampNeg by show _ = p.toInt.toNat; omega]; exact ne_z c), show a'.toInt.toNat = a.toInt.toNat + 1 by omega, show n'.toInt.toNat = n.toInt.toNat - 1 by omega]
/-- a jump: taken, when what stands there is what goes on -/
theorem gc_jmp (hk : a.toInt < e.toInt) (h0 : 0 ≤ a.toInt) (h8 : 8 < (rc a.toNatClampNeg >>> (12 &&& 31)).toInt) (h9 : (rc a.toNatClampNeg >>> (12 &&& 31)).toInt ≠ 9) (h10 : (rc a.toNatClampNeg >>> (12 &&& 31)).toInt ≠ 10) (hn : 1 ≤ n.toInt) (ep : p.toInt = n.toInt - 1) (c : ((lg_cmp (st p.toNatClampNeg) 0).toInt ≠ 0 ∧ (rc a.toNatClampNeg >>> (12 &&& 31)).toInt = 11) ∨ ((lg_cmp (st p.toNatClampNeg) 0).toInt = 0 ∧ (rc a.toNatClampNeg >>> (12 &&& 31)).toInt ≠ 11)) (hx : 0 ≤ (rc a.toNatClampNeg &&& 4095).toInt) (ea : a'.toInt = max (a.toInt + 1) (rc a.toNatClampNeg &&& 4095).toInt) : GC rc q e a n st = GC rc q e a' n st := by
  have es : n.toInt.toNat - 1 = p.toNatClampNeg := by show _ = p.toInt.toNat; omega
  have ar : (arC rc a.toInt.toNat).toInt = (rc a.toNatClampNeg &&& 4095).toInt := rfl
  unfold GC
  rcases c with ⟨c1, c2⟩ | ⟨c1, c2⟩
  · have o1 : (opC rc a.toInt.toNat).toInt = 29 := ot_11 c2
    refine goE_jmp1 (by omega) (by omega) (fun _ => by omega) ?_ (by omega)
    rw [o1, es]
    unfold jpB
    rw [if_neg (by omega), if_pos rfl]
    exact decide_eq_true (ne_z c1)
  · have o1 : (opC rc a.toInt.toNat).toInt = 28 := ot_12 h8 h9 h10 c2
    refine goE_jmp1 (by omega) (by omega) (fun _ => by omega) ?_ (by omega)
    rw [o1, es]
    unfold jpB
    rw [if_pos rfl]
    exact decide_eq_true (eq_z c1)
theorem gc_drop (hk : a.toInt < e.toInt) (h0 : 0 ≤ a.toInt) (h8 : 8 < (rc a.toNatClampNeg >>> (12 &&& 31)).toInt) (h9 : (rc a.toNatClampNeg >>> (12 &&& 31)).toInt ≠ 9) (h10 : (rc a.toNatClampNeg >>> (12 &&& 31)).toInt ≠ 10) (hn : 1 ≤ n.toInt) (ep : p.toInt = n.toInt - 1) (c : ((lg_cmp (st p.toNatClampNeg) 0).toInt = 0 ∧ (rc a.toNatClampNeg >>> (12 &&& 31)).toInt = 11) ∨ ((lg_cmp (st p.toNatClampNeg) 0).toInt ≠ 0 ∧ (rc a.toNatClampNeg >>> (12 &&& 31)).toInt ≠ 11)) (ea : a'.toInt = a.toInt + 1) (en : n'.toInt = n.toInt - 1) : GC rc q e a n st = GC rc q e a' n' st := by
  have es : n.toInt.toNat - 1 = p.toNatClampNeg := by show _ = p.toInt.toNat; omega
  unfold GC
  rcases c with ⟨c1, c2⟩ | ⟨c1, c2⟩
  · have o1 : (opC rc a.toInt.toNat).toInt = 29 := ot_11 c2
    rw [goE_jmp0 (by omega) (by omega) (fun _ => by omega) (by rw [o1, es]; unfold jpB; rw [if_neg (by omega), if_pos rfl]; exact decide_eq_false (fun z => z (eq_z c1))), show a'.toInt.toNat = a.toInt.toNat + 1 by omega, show n'.toInt.toNat = n.toInt.toNat - 1 by omega]
  · have o1 : (opC rc a.toInt.toNat).toInt = 28 := ot_12 h8 h9 h10 c2
    rw [goE_jmp0 (by omega) (by omega) (fun _ => by omega) (by rw [o1, es]; unfold jpB; rw [if_pos rfl]; exact decide_eq_false (ne_z c1)), show a'.toInt.toNat = a.toInt.toNat + 1 by omega, show n'.toInt.toNat = n.toInt.toNat - 1 by omega]
end GCS
/-- what a clause of the class's law tells -/
theorem hc_1 {rc : Nat → Int32} {q st st' : Nat → Int64} {e a n z : Int32} {c : CLT} (hz : z.toInt = 0) (C : CLC rc a.toInt.toNat e.toInt.toNat c) (hl : lvC rc e.toInt.toNat ≤ 50) (E : GC rc q e a z st = some (n.toInt.toNat, st')) : ∃ v, clH c q = some v ∧ (c.1 < 2 → st' 0 = v) := by
  obtain ⟨r1, r2⟩ := clc_run (q := q) (st := st) C hl
  unfold GC at E
  rw [show z.toInt.toNat = 0 by omega] at E
  cases h : clH c q with
  | none => rw [r1 h] at E; cases E
  | some v =>
    obtain ⟨n2, st2, g1, g2⟩ := r2 v h
    rw [g1] at E
    have E := Option.some.inj E
    have e2 : st2 = st' := congrArg Prod.snd E
    exact ⟨v, rfl, fun y => by rw [← e2]; exact g2 y⟩
theorem hc_0 {rc : Nat → Int32} {q st : Nat → Int64} {e a z : Int32} {c : CLT} (hz : z.toInt = 0) (C : CLC rc a.toInt.toNat e.toInt.toNat c) (hl : lvC rc e.toInt.toNat ≤ 50) (E : GC rc q e a z st = none) : clH c q = none := by
  obtain ⟨r1, r2⟩ := clc_run (q := q) (st := st) C hl
  unfold GC at E
  rw [show z.toInt.toNat = 0 by omega] at E
  cases h : clH c q with
  | none => rfl
  | some v =>
    obtain ⟨n2, st2, g1, g2⟩ := r2 v h
    rw [g1] at E; cases E
/-! what a law tells, clause by clause -/
theorem tk_S {α : Type} : ∀ (L : List α) (k : Nat) (c : α), L[k]? = some c → L.take (k + 1) = L.take k ++ [c]
  | [], k, c, h => by cases h
  | a :: L, 0, c, h => by
    have e : some a = some c := h
    rw [Option.some.inj e]; rfl
  | a :: L, k + 1, c, h => by
    show a :: L.take (k + 1) = a :: (L.take k ++ [c])
    rw [tk_S L k c h]
theorem tX_no {L : List CLT} {k : Nat} {c : CLT} {h : Int} {q : Nat → Int64} (e : L[k]? = some c) (n : c.1 ≠ h ∨ clH c q = none) : toldX (L.take (k + 1)) h q = toldX (L.take k) h q := by
  rw [tk_S L k c e, toldX_S]
  by_cases y : c.1 = h
  · rw [if_pos y]
    rcases n with n | n
    · exact absurd y n
    · rw [n]
  · rw [if_neg y]
theorem tX_yes {L : List CLT} {k : Nat} {c : CLT} {h : Int} {q : Nat → Int64} {v : Int64} (e : L[k]? = some c) (y : c.1 = h) (n : clH c q = some v) : toldX (L.take (k + 1)) h q = some v := by
  rw [tk_S L k c e, toldX_S, if_pos y, n]
theorem tX_all {L : List CLT} {k : Nat} {h : Int} {q : Nat → Int64} (e : L.length ≤ k) : toldX (L.take k) h q = toldX L h q := by
  rw [List.take_of_length_le e]
theorem tX_0 {L : List CLT} {k : Nat} {h : Int} {q : Nat → Int64} (e : k = 0) : toldX (L.take k) h q = none := by
  subst e; rfl
/-- the law in force, if there is one, tells -/
def toldW (w : Option (List CLT)) (h : Int) (q : Nat → Int64) : Option Int64 :=
  match w with
  | none => none
  | some L => toldX L h q
/-- told, or what is without, within its range -/
def clampQ (v : Int64) (m : Int32) : Int32 := (if (if v < m.toInt64 then v else m.toInt64) < 0 then 0 else (if v < m.toInt64 then v else m.toInt64)).toInt32
def tellQ (t : Option Int64) (wo m : Int32) : Int32 :=
  match t with
  | none => wo
  | some v => clampQ v m
/-! a look: what both walk -/
def askQ (gl ce ho wy bo pts br : Int32) : Nat → Int64 := fun j => (if j = 0 then gl else if j = 1 then Int32.ofInt (ce.toInt % 8) else if j = 2 then Int32.ofInt (ce.toInt / 8) else if j = 3 then ho else if j = 4 then wy else if j = 5 then bo else if j = 6 then pts else Int32.ofInt (br.toInt / 1000)).toInt64
abbrev LWF : Type := Option (List CLT)
def isQ (x k : Int32) : Prop := ((x >>> (k &&& 31)) &&& 1).toInt ≠ 0
/-- the first body there that is not clear -/
noncomputable def bodF (f : Nat → Int32) (w : LWF) (ce ho wy pts br : Int32) : Nat → Nat → Int32
  | 0, _ => -1
  | m + 1, b => cif (f (110 + 24 * b + ho.toInt.toNat) = ce ∧ toldW w 3 (askQ (-1) ce ho wy (Int32.ofNat b) pts br) = none) (Int32.ofNat b) (bodF f w ce ho wy pts br m (b + 1))
noncomputable def seenF (f : Nat → Int32) (w : LWF) (ce ho wy pts br : Int32) : Int32 := bodF f w ce ho wy pts br (f 1).toInt.toNat 0
noncomputable def glaF (f : Nat → Int32) (ce : Int32) : Nat → Nat → Int32
  | 0, _ => -1
  | m + 1, g => cif (f (80 + 5 * g) = ce) (Int32.ofNat g) (glaF f ce m (g + 1))
noncomputable def glassF (f : Nat → Int32) (ce : Int32) : Int32 := glaF f ce (f 0).toInt.toNat 0
noncomputable def spoF (f : Nat → Int32) (hg ce : Int32) : Nat → Nat → Int32
  | 0, _ => -1
  | m + 1, s => cif (isQ hg (Int32.ofNat s) ∧ f (270 + 3 * s) = ce) (Int32.ofNat s) (spoF f hg ce m (s + 1))
noncomputable def spotF (f : Nat → Int32) (hg ce : Int32) : Int32 := spoF f hg ce (f 7).toInt.toNat 0
/-- it goes on, way, hour, bright, through -/
abbrev TS : Type := Bool × Int32 × Int32 × Int32 × Int32
def nwF (so wy : Int32) : Int32 := if so.toInt = 0 then wy ^^^ 1 else if so.toInt = 1 then 3 - wy else wy ^^^ 2
noncomputable def turnF (w : LWF) (g so la du : Int32) (cov : Prop) (le ce wy ho br th pts : Int32) : TS :=
  cif (cov ∨ toldW w 2 (askQ g ce ho wy (-1) pts br) ≠ none ∨ (2 ≤ so.toInt ∧ wy.toInt ≠ so.toInt % 4)) (false, wy, ho, br, th)
    (cif (ho.toInt < (tellQ (toldW w 0 (askQ g ce ho wy (-1) pts br)) la 23).toInt) (false, wy, ho, br, th)
      (cif ((br * (10 - tellQ (toldW w 1 (askQ g ce ho wy (-1) pts br)) du 10) / 10).toInt < le.toInt) (false, wy, ho, br * (10 - tellQ (toldW w 1 (askQ g ce ho wy (-1) pts br)) du 10) / 10, th)
        (true, nwF so wy, ho - tellQ (toldW w 0 (askQ g ce ho wy (-1) pts br)) la 23, br * (10 - tellQ (toldW w 1 (askQ g ce ho wy (-1) pts br)) du 10) / 10, th ||| ((1 : Int32) <<< (g &&& 31)))))
noncomputable def meetF (f : Nat → Int32) (w : LWF) (hg ce wy ho br th pts : Int32) : TS :=
  cif (glassF f ce ≠ -1) (turnF w (glassF f ce) (f (80 + 5 * (glassF f ce).toInt.toNat + 1)) (f (80 + 5 * (glassF f ce).toInt.toNat + 2)) (f (80 + 5 * (glassF f ce).toInt.toNat + 3)) (isQ (f (80 + 5 * (glassF f ce).toInt.toNat + 4)) ho) (f 4) ce wy ho br th pts)
    (cif (spotF f hg ce ≠ -1) (turnF w (6 + spotF f hg ce) (f (270 + 3 * (spotF f hg ce).toInt.toNat + 1)) (f (270 + 3 * (spotF f hg ce).toInt.toNat + 2)) 0 False (f 4) ce wy ho br th pts) (true, wy, ho, br, th))
/-- cell, way, hour, bright, through, seen, goes on, how many points, the points -/
abbrev LST : Type := Int32 × Int32 × Int32 × Int32 × Int32 × Int32 × Bool × Nat × (Nat → Int32)
def lkbr (S : LST) : Int32 := S.2.2.2.1
def lkth (S : LST) : Int32 := S.2.2.2.2.1
def lkse (S : LST) : Int32 := S.2.2.2.2.2.1
def lkmo (S : LST) : Bool := S.2.2.2.2.2.2.1
def lkn (S : LST) : Nat := S.2.2.2.2.2.2.2.1
def lkpt (S : LST) : Nat → Int32 := S.2.2.2.2.2.2.2.2
noncomputable def lkM (f : Nat → Int32) (w : LWF) (hg ce wy ho br th : Int32) (n : Nat) (pt : Nat → Int32) : LST :=
  cif (seenF f w ce ho wy (Int32.ofNat n) br ≠ -1) (ce, wy, ho, br, th, seenF f w ce ho wy (Int32.ofNat n) br, false, n, pt)
    (ce, (meetF f w hg ce wy ho br th (Int32.ofNat n)).2.1, (meetF f w hg ce wy ho br th (Int32.ofNat n)).2.2.1, (meetF f w hg ce wy ho br th (Int32.ofNat n)).2.2.2.1, (meetF f w hg ce wy ho br th (Int32.ofNat n)).2.2.2.2, -1, (meetF f w hg ce wy ho br th (Int32.ofNat n)).1, n, pt)
noncomputable def lkG (f : Nat → Int32) (w : LWF) (hg ce wy ho br th : Int32) (n : Nat) (pt : Nat → Int32) : LST :=
  cif (bs ce.toInt wy.toInt = -1 ∨ wallAt f (bs ce.toInt wy.toInt)) (ce, wy, ho, br, th, -1, false, n, pt)
    (lkM f w hg (Int32.ofInt (bs ce.toInt wy.toInt)) wy ho br th (n + 1) (upd pt n (Int32.ofInt (64 * ho.toInt + bs ce.toInt wy.toInt))))
noncomputable def lkS (f : Nat → Int32) (w : LWF) (hg : Int32) (S : LST) : LST :=
  match S with
  | (ce, wy, ho, br, th, _, true, n, pt) => lkG f w hg ce wy ho br th n pt
  | (ce, wy, ho, br, th, se, false, n, pt) => (ce, wy, ho, br, th, se, false, n, pt)
noncomputable def lkI (f : Nat → Int32) (w : LWF) (hg : Int32) (S : LST) : Nat → LST
  | 0 => S
  | n + 1 => lkS f w hg (lkI f w hg S n)
def lk0 (c y h : Int32) : LST := (c, y, h, 1000000, 0, -1, true, 0, fun _ => 0)
noncomputable def lkE (f : Nat → Int32) (w : LWF) (hg c y h : Int32) : LST := lkI f w hg (lk0 c y h) 200
theorem lk_stop {f : Nat → Int32} {w : LWF} {hg : Int32} {S : LST} {i : Nat} (h : lkmo (lkI f w hg S i) = false) : ∀ m : Nat, lkI f w hg S (i + m) = lkI f w hg S i := by
  intro m
  induction m with
  | zero => rfl
  | succ m ih =>
    show lkS f w hg (lkI f w hg S (i + m)) = _
    rw [ih]
    generalize lkI f w hg S i = T at h
    obtain ⟨ce, wy, ho, br, th, se, mo, n, pt⟩ := T
    have h : mo = false := h
    subst h; rfl
/-- on the way: so many steps -/
def LKA (f : Nat → Int32) (w : LWF) (hg c y h : Int32) (i : Nat) (ce wy ho br th : Int32) (k : Nat → Int32) : Prop := ∃ pt : Nat → Int32, lkI f w hg (lk0 c y h) i = (ce, wy, ho, br, th, -1, true, i, pt) ∧ ∀ j : Nat, j < i → k j = pt j
/-- how it ended -/
def LKR (f : Nat → Int32) (w : LWF) (hg c y h : Int32) (se n br th : Int32) (k : Nat → Int32) : Prop := se = lkse (lkE f w hg c y h) ∧ n.toInt = (lkn (lkE f w hg c y h) : Int) ∧ br = lkbr (lkE f w hg c y h) ∧ th = lkth (lkE f w hg c y h) ∧ ∀ j : Nat, (j : Int) < n.toInt → k j = lkpt (lkE f w hg c y h) j
section LKS
variable {f k k' : Nat → Int32} {w : LWF} {hg c y h ce ce' wy wy' ho ho' br br' th th' se n x : Int32} {i i' : Nat}
theorem lka_0 : LKA f w hg c y h 0 c y h 1000000 0 k := ⟨fun _ => 0, rfl, fun j hj => absurd hj (by omega)⟩
theorem lkr_of {S : LST} (hi : i ≤ 200) (e : lkI f w hg (lk0 c y h) i = S) (hm : lkmo S = false ∨ i = 200) (e1 : se = lkse S) (e2 : n.toInt = (lkn S : Int)) (e3 : br = lkbr S) (e4 : th = lkth S) (e5 : ∀ j : Nat, (j : Int) < n.toInt → k j = lkpt S j) : LKR f w hg c y h se n br th k := by
  have z : lkE f w hg c y h = S := by
    rcases hm with hm | hm
    · have q := lk_stop (f := f) (w := w) (hg := hg) (S := lk0 c y h) (i := i) (by rw [e]; exact hm) (200 - i)
      rw [show i + (200 - i) = 200 by omega, e] at q
      exact q
    · subst hm; exact e
  unfold LKR
  rw [z]
  exact ⟨e1, e2, e3, e4, e5⟩
theorem lka_end (A : LKA f w hg c y h i ce wy ho br th k) (hi : i = 200) (hn : n.toInt = (i : Int)) (hs : se = -1) : LKR f w hg c y h se n br th k := by
  obtain ⟨pt, e, p⟩ := A
  exact lkr_of (by omega) e (Or.inr hi) hs hn rfl rfl (fun j hj => p j (by omega))
theorem lka_wall (A : LKA f w hg c y h i ce wy ho br th k) (hi : i < 200) (hn : n.toInt = (i : Int)) (hs : se = -1) (q : bs ce.toInt wy.toInt = -1 ∨ wallAt f (bs ce.toInt wy.toInt)) : LKR f w hg c y h se n br th k := by
  obtain ⟨pt, e, p⟩ := A
  have e2 : lkI f w hg (lk0 c y h) (i + 1) = (ce, wy, ho, br, th, -1, false, i, pt) := by
    show lkS f w hg (lkI f w hg (lk0 c y h) i) = _
    rw [e]
    show lkG f w hg ce wy ho br th i pt = _
    unfold lkG; rw [cif_t q]
  exact lkr_of (by omega) e2 (Or.inl rfl) hs hn rfl rfl (fun j hj => p j (by omega))
/-- a step to a free cell -/
theorem lka_un (A : LKA f w hg c y h i ce wy ho br th k) (q : ¬ (bs ce.toInt wy.toInt = -1 ∨ wallAt f (bs ce.toInt wy.toInt))) (hc : ce'.toInt = bs ce.toInt wy.toInt) (hx : x.toInt = 64 * ho.toInt + ce'.toInt) (hk : k' = upd k i x) : ∃ pt : Nat → Int32, lkI f w hg (lk0 c y h) (i + 1) = lkM f w hg ce' wy ho br th (i + 1) pt ∧ ∀ j : Nat, j < i + 1 → k' j = pt j := by
  obtain ⟨pt, e, p⟩ := A
  refine ⟨upd pt i x, ?_, fun j hj => ?_⟩
  · show lkS f w hg (lkI f w hg (lk0 c y h) i) = _
    rw [e]
    show lkG f w hg ce wy ho br th i pt = _
    unfold lkG
    rw [cif_f q, ← hc, ← hx, ← ofInt_i (x := ce') rfl, ← ofInt_i (x := x) rfl]
  · rw [hk]
    by_cases z : j = i
    · rw [z, upd_eq, upd_eq]
    · rw [upd_ne z, upd_ne z]; exact p j (by omega)
theorem nat_i {n : Int32} (h : n.toInt = (i : Int)) : Int32.ofNat i = n := by
  rw [ofInt_i h]; rfl
theorem lka_body (A : LKA f w hg c y h i ce wy ho br th k) (hi : i < 200) (q : ¬ (bs ce.toInt wy.toInt = -1 ∨ wallAt f (bs ce.toInt wy.toInt))) (hc : ce'.toInt = bs ce.toInt wy.toInt) (hx : x.toInt = 64 * ho.toInt + ce'.toInt) (hk : k' = upd k i x) (hn : n.toInt = (i : Int) + 1) (hs : se = seenF f w ce' ho wy n br) (hne : se.toInt ≠ -1) : LKR f w hg c y h se n br th k' := by
  obtain ⟨pt, e, p⟩ := lka_un A q hc hx hk
  have en : Int32.ofNat (i + 1) = n := nat_i (by omega)
  have e2 : lkM f w hg ce' wy ho br th (i + 1) pt = (ce', wy, ho, br, th, se, false, i + 1, pt) := by
    unfold lkM
    rw [en, ← hs, cif_t (fun z => hne (by rw [z]; decide))]
  exact lkr_of (by omega) (e.trans e2) (Or.inl rfl) rfl (by show n.toInt = ((i + 1 : Nat) : Int); omega) rfl rfl (fun j hj => p j (by omega))
theorem lka_turn (A : LKA f w hg c y h i ce wy ho br th k) (q : ¬ (bs ce.toInt wy.toInt = -1 ∨ wallAt f (bs ce.toInt wy.toInt))) (hc : ce'.toInt = bs ce.toInt wy.toInt) (hx : x.toInt = 64 * ho.toInt + ce'.toInt) (hk : k' = upd k i x) (hn : n.toInt = (i : Int) + 1) (hs : seenF f w ce' ho wy n br = -1) (t : TS) (ht : meetF f w hg ce' wy ho br th n = t) : ∃ pt : Nat → Int32, lkI f w hg (lk0 c y h) (i + 1) = (ce', t.2.1, t.2.2.1, t.2.2.2.1, t.2.2.2.2, -1, t.1, i + 1, pt) ∧ ∀ j : Nat, j < i + 1 → k' j = pt j := by
  obtain ⟨pt, e, p⟩ := lka_un A q hc hx hk
  have en : Int32.ofNat (i + 1) = n := nat_i (by omega)
  refine ⟨pt, e.trans ?_, p⟩
  unfold lkM
  rw [en, hs, cif_f (fun z => z rfl), ht]
theorem lka_stop (A : LKA f w hg c y h i ce wy ho br th k) (hi : i < 200) (q : ¬ (bs ce.toInt wy.toInt = -1 ∨ wallAt f (bs ce.toInt wy.toInt))) (hc : ce'.toInt = bs ce.toInt wy.toInt) (hx : x.toInt = 64 * ho.toInt + ce'.toInt) (hk : k' = upd k i x) (hn : n.toInt = (i : Int) + 1) (hs : seenF f w ce' ho wy n br = -1) (ht : (meetF f w hg ce' wy ho br th n).1 = false ∧ (meetF f w hg ce' wy ho br th n).2.2.2.1 = br' ∧ (meetF f w hg ce' wy ho br th n).2.2.2.2 = th') (he : se = -1) : LKR f w hg c y h se n br' th' k' := by
  obtain ⟨pt, e, p⟩ := lka_turn A q hc hx hk hn hs _ rfl
  obtain ⟨t1, t2, t3⟩ := ht
  rw [t1, t2, t3] at e
  exact lkr_of (by omega) e (Or.inl rfl) he (by show n.toInt = ((i + 1 : Nat) : Int); omega) rfl rfl (fun j hj => p j (by omega))
theorem lka_go (A : LKA f w hg c y h i ce wy ho br th k) (q : ¬ (bs ce.toInt wy.toInt = -1 ∨ wallAt f (bs ce.toInt wy.toInt))) (hc : ce'.toInt = bs ce.toInt wy.toInt) (hx : x.toInt = 64 * ho.toInt + ce'.toInt) (hk : k' = upd k i x) (hn : n.toInt = (i : Int) + 1) (hs : seenF f w ce' ho wy n br = -1) (ht : meetF f w hg ce' wy ho br th n = (true, wy', ho', br', th')) (hi : i' = i + 1) : LKA f w hg c y h i' ce' wy' ho' br' th' k' := by
  obtain ⟨pt, e, p⟩ := lka_turn A q hc hx hk hn hs _ ht
  subst hi
  exact ⟨pt, e, p⟩
end LKS
/-! bodies, glasses, spots: found one by one -/
theorem bod_y {f : Nat → Int32} {w : LWF} {ce ho wy pts br b : Int32} {m k : Nat} (hk : b.toInt = (k : Int)) (hm : 0 < m) (h1 : f (110 + 24 * k + ho.toInt.toNat) = ce) (h2 : toldW w 3 (askQ (-1) ce ho wy b pts br) = none) : bodF f w ce ho wy pts br m k = b := by
  obtain ⟨m, rfl⟩ : ∃ m', m = m' + 1 := ⟨m - 1, by omega⟩
  show cif _ _ _ = _
  rw [nat_i hk, cif_t ⟨h1, h2⟩]
theorem bod_n {f : Nat → Int32} {w : LWF} {ce ho wy pts br b : Int32} {m k : Nat} (hk : b.toInt = (k : Int)) (h : f (110 + 24 * k + ho.toInt.toNat) ≠ ce ∨ toldW w 3 (askQ (-1) ce ho wy b pts br) ≠ none) : bodF f w ce ho wy pts br (m + 1) k = bodF f w ce ho wy pts br m (k + 1) := by
  show cif _ _ _ = _
  rw [nat_i hk, cif_f (fun z => h.elim (fun y => y z.1) (fun y => y z.2))]
theorem bod_0 {f : Nat → Int32} {w : LWF} {ce ho wy pts br : Int32} {m k : Nat} (h : m = 0) : bodF f w ce ho wy pts br m k = -1 := by subst h; rfl
/-- where the search stands -/
def BDA (f : Nat → Int32) (w : LWF) (ce ho wy pts br b : Int32) : Prop := seenF f w ce ho wy pts br = bodF f w ce ho wy pts br ((f 1).toInt - b.toInt).toNat b.toInt.toNat
section BDS
variable {f : Nat → Int32} {w : LWF} {ce ho wy pts br b b' : Int32}
theorem bda_0 (h : b.toInt = 0) : BDA f w ce ho wy pts br b := by
  unfold BDA seenF; rw [h]
  congr 1; omega
theorem bda_y (A : BDA f w ce ho wy pts br b) (h0 : 0 ≤ b.toInt ∧ b.toInt < (f 1).toInt) (h1 : f (110 + 24 * b.toInt.toNat + ho.toInt.toNat) = ce) (h2 : toldW w 3 (askQ (-1) ce ho wy b pts br) = none) : seenF f w ce ho wy pts br = b := by
  rw [A]
  exact bod_y (by omega) (by omega) h1 h2
theorem bda_n (A : BDA f w ce ho wy pts br b) (h0 : 0 ≤ b.toInt ∧ b.toInt < (f 1).toInt) (hb : b'.toInt = b.toInt + 1) (h : f (110 + 24 * b.toInt.toNat + ho.toInt.toNat) ≠ ce ∨ toldW w 3 (askQ (-1) ce ho wy b pts br) ≠ none) : BDA f w ce ho wy pts br b' := by
  unfold BDA at A ⊢
  rw [A, show ((f 1).toInt - b.toInt).toNat = ((f 1).toInt - b'.toInt).toNat + 1 by omega, show b'.toInt.toNat = b.toInt.toNat + 1 by omega]
  exact bod_n (by omega) h
theorem bda_e (A : BDA f w ce ho wy pts br b) (h : (f 1).toInt ≤ b.toInt) : seenF f w ce ho wy pts br = -1 := by
  rw [A]; exact bod_0 (by omega)
end BDS
def GLA (f : Nat → Int32) (ce g : Int32) : Prop := glassF f ce = glaF f ce ((f 0).toInt - g.toInt).toNat g.toInt.toNat
def SPA (f : Nat → Int32) (hg ce s : Int32) : Prop := spotF f hg ce = spoF f hg ce ((f 7).toInt - s.toInt).toNat s.toInt.toNat
section GLS
variable {f : Nat → Int32} {hg ce g g' : Int32}
theorem gla_0 (h : g.toInt = 0) : GLA f ce g := by
  unfold GLA glassF; rw [h]; congr 1; omega
theorem gla_y (A : GLA f ce g) (h0 : 0 ≤ g.toInt ∧ g.toInt < (f 0).toInt) (h1 : f (80 + 5 * g.toInt.toNat) = ce) : glassF f ce = g := by
  rw [A]
  obtain ⟨m, e⟩ : ∃ m', ((f 0).toInt - g.toInt).toNat = m' + 1 := ⟨((f 0).toInt - g.toInt).toNat - 1, by omega⟩
  rw [e]
  show cif _ _ _ = _
  rw [cif_t h1, nat_i (n := g) (by omega)]
theorem gla_n (A : GLA f ce g) (h0 : 0 ≤ g.toInt ∧ g.toInt < (f 0).toInt) (hg : g'.toInt = g.toInt + 1) (h1 : f (80 + 5 * g.toInt.toNat) ≠ ce) : GLA f ce g' := by
  unfold GLA at A ⊢
  rw [A, show ((f 0).toInt - g.toInt).toNat = ((f 0).toInt - g'.toInt).toNat + 1 by omega, show g'.toInt.toNat = g.toInt.toNat + 1 by omega]
  show cif _ _ _ = _
  rw [cif_f h1]
theorem gla_e (A : GLA f ce g) (h : (f 0).toInt ≤ g.toInt) : glassF f ce = -1 := by
  rw [A, show ((f 0).toInt - g.toInt).toNat = 0 by omega]; rfl
theorem spa_0 (h : g.toInt = 0) : SPA f hg ce g := by
  unfold SPA spotF; rw [h]; congr 1; omega
theorem spa_y (A : SPA f hg ce g) (h0 : 0 ≤ g.toInt ∧ g.toInt < (f 7).toInt) (h2 : isQ hg g) (h1 : f (270 + 3 * g.toInt.toNat) = ce) : spotF f hg ce = g := by
  rw [A]
  obtain ⟨m, e⟩ : ∃ m', ((f 7).toInt - g.toInt).toNat = m' + 1 := ⟨((f 7).toInt - g.toInt).toNat - 1, by omega⟩
  rw [e]
  show cif _ _ _ = _
  rw [nat_i (n := g) (by omega), cif_t ⟨h2, h1⟩]
theorem spa_n (A : SPA f hg ce g) (h0 : 0 ≤ g.toInt ∧ g.toInt < (f 7).toInt) (hg1 : g'.toInt = g.toInt + 1) (h1 : ¬ isQ hg g ∨ f (270 + 3 * g.toInt.toNat) ≠ ce) : SPA f hg ce g' := by
  unfold SPA at A ⊢
  rw [A, show ((f 7).toInt - g.toInt).toNat = ((f 7).toInt - g'.toInt).toNat + 1 by omega, show g'.toInt.toNat = g.toInt.toNat + 1 by omega]
  show cif _ _ _ = _
  rw [nat_i (n := g) (by omega), cif_f (fun z => h1.elim (fun y => y z.1) (fun y => y z.2))]
theorem spa_e (A : SPA f hg ce g) (h : (f 7).toInt ≤ g.toInt) : spotF f hg ce = -1 := by
  rw [A, show ((f 7).toInt - g.toInt).toNat = 0 by omega]; rfl
end GLS
/-- no spot is hung -/
theorem isQ_0 {hg k : Int32} (h : hg = 0) : ¬ isQ hg k := by
  intro q
  refine q ?_
  subst h
  have e : ((0 : Int32) >>> (k &&& 31)) = 0 := by
    apply Int32.toBitVec_inj.mp
    apply BitVec.eq_of_getLsbD_eq
    intro i hi
    rw [Int32.toBitVec_shiftRight, BitVec.sshiftRight_eq', BitVec.getLsbD_sshiftRight]
    simp
  rw [e]; decide
section TNS
variable {w : LWF} {g so la du le ce wy ho br th pts late dd br' : Int32} {cov : Prop}
theorem tn_0 (h : cov ∨ toldW w 2 (askQ g ce ho wy (-1) pts br) ≠ none ∨ (2 ≤ so.toInt ∧ wy.toInt ≠ so.toInt % 4)) : turnF w g so la du cov le ce wy ho br th pts = (false, wy, ho, br, th) := by
  unfold turnF; rw [cif_t h]
theorem tn_1 (h : ¬ (cov ∨ toldW w 2 (askQ g ce ho wy (-1) pts br) ≠ none ∨ (2 ≤ so.toInt ∧ wy.toInt ≠ so.toInt % 4))) (el : late = tellQ (toldW w 0 (askQ g ce ho wy (-1) pts br)) la 23) (h1 : ho.toInt < late.toInt) : turnF w g so la du cov le ce wy ho br th pts = (false, wy, ho, br, th) := by
  unfold turnF; rw [cif_f h, ← el, cif_t h1]
theorem tn_2 (h : ¬ (cov ∨ toldW w 2 (askQ g ce ho wy (-1) pts br) ≠ none ∨ (2 ≤ so.toInt ∧ wy.toInt ≠ so.toInt % 4))) (el : late = tellQ (toldW w 0 (askQ g ce ho wy (-1) pts br)) la 23) (h1 : ¬ ho.toInt < late.toInt) (ed : dd = tellQ (toldW w 1 (askQ g ce ho wy (-1) pts br)) du 10) (eb : br' = br * (10 - dd) / 10) (h2 : br'.toInt < le.toInt) : turnF w g so la du cov le ce wy ho br th pts = (false, wy, ho, br', th) := by
  unfold turnF; rw [cif_f h, ← el, cif_f h1, ← ed, ← eb, cif_t h2]
theorem tn_3 (h : ¬ (cov ∨ toldW w 2 (askQ g ce ho wy (-1) pts br) ≠ none ∨ (2 ≤ so.toInt ∧ wy.toInt ≠ so.toInt % 4))) (el : late = tellQ (toldW w 0 (askQ g ce ho wy (-1) pts br)) la 23) (h1 : ¬ ho.toInt < late.toInt) (ed : dd = tellQ (toldW w 1 (askQ g ce ho wy (-1) pts br)) du 10) (eb : br' = br * (10 - dd) / 10) (h2 : ¬ br'.toInt < le.toInt) : turnF w g so la du cov le ce wy ho br th pts = (true, nwF so wy, ho - late, br', th ||| ((1 : Int32) <<< (g &&& 31))) := by
  unfold turnF; rw [cif_f h, ← el, cif_f h1, ← ed, ← eb, cif_f h2]
end TNS
section MTS
variable {f : Nat → Int32} {w : LWF} {hg ce wy ho br th pts g : Int32}
theorem met_g (h : glassF f ce = g) (h0 : 0 ≤ g.toInt) : meetF f w hg ce wy ho br th pts = turnF w g (f (80 + 5 * g.toInt.toNat + 1)) (f (80 + 5 * g.toInt.toNat + 2)) (f (80 + 5 * g.toInt.toNat + 3)) (isQ (f (80 + 5 * g.toInt.toNat + 4)) ho) (f 4) ce wy ho br th pts := by
  unfold meetF
  rw [h, cif_t (fun z => by rw [z] at h0; exact absurd h0 (by decide))]
theorem met_s (h : glassF f ce = -1) (h2 : spotF f hg ce = g) (h0 : 0 ≤ g.toInt) : meetF f w hg ce wy ho br th pts = turnF w (6 + g) (f (270 + 3 * g.toInt.toNat + 1)) (f (270 + 3 * g.toInt.toNat + 2)) 0 False (f 4) ce wy ho br th pts := by
  unfold meetF
  rw [h, cif_f (fun z => z rfl), h2, cif_t (fun z => by rw [z] at h0; exact absurd h0 (by decide))]
theorem met_n (h : glassF f ce = -1) (h2 : spotF f hg ce = -1) : meetF f w hg ce wy ho br th pts = (true, wy, ho, br, th) := by
  unfold meetF
  rw [h, cif_f (fun z => z rfl), h2, cif_f (fun z => z rfl)]
end MTS
/-! what is asked -/
theorem ak_all : ∀ n : Nat, n < 64 → (nI n &&& 7) = Int32.ofInt ((nI n).toInt % 8) ∧ (nI n >>> ((3 : Int32) &&& 31)) = Int32.ofInt ((nI n).toInt / 8) ∧ (nI n % 8) = Int32.ofInt ((nI n).toInt % 8) ∧ (nI n / 8) = Int32.ofInt ((nI n).toInt / 8) := by decide +kernel
theorem ak_ce {ce : Int32} (h : 0 ≤ ce.toInt ∧ ce.toInt ≤ 63) : (ce &&& 7) = Int32.ofInt (ce.toInt % 8) ∧ (ce >>> ((3 : Int32) &&& 31)) = Int32.ofInt (ce.toInt / 8) ∧ (ce % 8) = Int32.ofInt (ce.toInt % 8) ∧ (ce / 8) = Int32.ofInt (ce.toInt / 8) := by
  have z := ak_all ce.toInt.toNat (by omega)
  rw [← g5_nI h.1] at z; exact z
theorem ask_c {f : Nat → Int32} {g ce ho wy bo n br b7 : Int32} (hc : 0 ≤ ce.toInt ∧ ce.toInt ≤ 63) (hb : b7.toInt = br.toInt / 1000) : ∀ j : Nat, j < 8 → askQ g ce ho wy bo n br j = (upd (upd (upd (upd (upd (upd (upd (upd f 0 g) 1 (ce &&& 7)) 2 (ce >>> ((3 : Int32) &&& 31))) 3 ho) 4 wy) 5 bo) 6 n) 7 b7 j).toInt64 := by
  intro j hj
  obtain ⟨c1, c2, _, _⟩ := ak_ce hc
  unfold askQ
  congr 1
  rw [← c1, ← c2, ← hb, ← ofInt_i (x := b7) rfl]
  rcases (show j = 0 ∨ j = 1 ∨ j = 2 ∨ j = 3 ∨ j = 4 ∨ j = 5 ∨ j = 6 ∨ j = 7 by omega) with e | e | e | e | e | e | e | e <;> (subst e; unfold upd; simp)
theorem tell_n {t : Option Int64} {wo m : Int32} (h : t = none) : wo = tellQ t wo m := by subst h; rfl
theorem tell_s {t : Option Int64} {wo m r : Int32} {v : Int64} (h : t = some v) (e : r = clampQ v m) : r = tellQ t wo m := by subst h; exact e
/-- the class's tables -/
theorem find_g {n : Int32} {t : Nat → Int32} {gb : Int64} {f : Nat → Int32} (h : QG n t gb f) {r ce : Int32} (h0 : 0 ≤ r.toInt ∧ r.toInt < n.toInt) (h1 : tget t n.toInt 5 r.toInt (0 : Int32).toInt = ce) (h2 : ∀ k : Int, 0 ≤ k → k < r.toInt → tget t n.toInt 5 k (0 : Int32).toInt ≠ ce) : glassF f ce = r := by
  obtain ⟨hb, e0, ht, _⟩ := h
  have z0 : (0 : Int32).toInt = 0 := by decide
  rw [z0] at h1 h2
  have key : ∀ k : Nat, (k : Int) ≤ r.toInt → glassF f ce = glaF f ce ((f 0).toInt - k).toNat k := by
    intro k
    induction k with
    | zero =>
      intro _
      unfold glassF; congr 1; omega
    | succ k ih =>
      intro hk
      rw [ih (by omega)]
      have y := ht k 0 (by omega) (by omega)
      rw [show ((f 0).toInt - (k : Int)).toNat = ((f 0).toInt - ((k + 1 : Nat) : Int)).toNat + 1 by rw [e0]; omega]
      show cif _ _ _ = _
      rw [cif_f (fun z => h2 k (by omega) (by omega) (by rw [show 80 + 5 * k = 80 + 5 * k + 0 by omega, y] at z; exact z))]
  rw [key r.toInt.toNat (by omega)]
  obtain ⟨m, e⟩ : ∃ m', ((f 0).toInt - (r.toInt.toNat : Int)).toNat = m' + 1 := ⟨((f 0).toInt - (r.toInt.toNat : Int)).toNat - 1, by rw [e0]; omega⟩
  rw [e]
  have y := ht r.toInt.toNat 0 (by omega) (by omega)
  show cif _ _ _ = _
  rw [cif_t (by rw [show 80 + 5 * r.toInt.toNat = 80 + 5 * r.toInt.toNat + 0 by omega, y, show ((r.toInt.toNat : Nat) : Int) = r.toInt by omega]; exact h1), nat_i (n := r) (by omega)]
theorem gla_no {f : Nat → Int32} {ce : Int32} : ∀ m g : Nat, (∀ k : Nat, g ≤ k → k < g + m → f (80 + 5 * k) ≠ ce) → glaF f ce m g = -1 := by
  intro m
  induction m with
  | zero => intro g _; rfl
  | succ m ih =>
    intro g h
    show cif _ _ _ = _
    rw [cif_f (h g (by omega) (by omega))]
    exact ih (g + 1) (fun k a b => h k (by omega) (by omega))
theorem find_gn {n : Int32} {t : Nat → Int32} {gb : Int64} {f : Nat → Int32} (h : QG n t gb f) {ce : Int32} (h2 : ∀ k : Int, 0 ≤ k → k < n.toInt → tget t n.toInt 5 k (0 : Int32).toInt ≠ ce) : glassF f ce = -1 := by
  obtain ⟨hb, e0, ht, _⟩ := h
  have z0 : (0 : Int32).toInt = 0 := by decide
  rw [z0] at h2
  refine gla_no _ _ (fun k _ b z => h2 k (by omega) (by rw [e0] at b; omega) ?_)
  have y := ht k 0 (by rw [e0] at b; omega) (by omega)
  rw [show 80 + 5 * k = 80 + 5 * k + 0 by omega, y] at z
  exact z
theorem gl_bit {n : Int32} {t : Nat → Int32} {gb : Int64} {f : Nat → Int32} (h : QG n t gb f) {ce : Int32} (hc : 0 ≤ ce.toInt ∧ ce.toInt ≤ 63) (q : onB gb ce.toInt = false) : glassF f ce = -1 := by
  refine find_gn h (fun k a b z => ?_)
  have y := h.2.2.2.2 k a b
  have z0 : (0 : Int32).toInt = 0 := by decide
  rw [z0] at z
  rw [z, q] at y
  exact absurd y (by decide)
theorem bod_no {f : Nat → Int32} {w : LWF} {ce ho wy pts br : Int32} : ∀ m b : Nat, (∀ k : Nat, b ≤ k → k < b + m → f (110 + 24 * k + ho.toInt.toNat) ≠ ce) → bodF f w ce ho wy pts br m b = -1 := by
  intro m
  induction m with
  | zero => intro b _; rfl
  | succ m ih =>
    intro b h
    show cif _ _ _ = _
    rw [cif_f (fun z => h b (by omega) (by omega) z.1)]
    exact ih (b + 1) (fun k a c => h k (by omega) (by omega))
theorem bd_bit {n : Int32} {t : Nat → Int32} {bb : Nat → Int64} {f : Nat → Int32} (h : QB n t bb f) {w : LWF} {ce ho wy pts br : Int32} (hc : 0 ≤ ce.toInt ∧ ce.toInt ≤ 63) (hh : 0 ≤ ho.toInt ∧ ho.toInt ≤ 23) (q : onB (bb ho.toInt.toNat) ce.toInt = false) : seenF f w ce ho wy pts br = -1 := by
  obtain ⟨hb, e1, ht, h4, h5⟩ := h
  refine bod_no _ _ (fun k _ b z => ?_)
  rw [e1] at b
  rw [ht k ho.toInt.toNat (by omega) (by omega)] at z
  have y := (onB_bbd (fun r a b => h5 r ho.toInt.toNat a b (by omega) (by omega)) hc.1 hc.2 n.toInt.toNat (by omega)).mpr ⟨k, by omega, by rw [z]⟩
  rw [← h4 _ (by omega), q] at y
  exact absurd y (by decide)
theorem gl_abs {n : Int32} {t : Nat → Int32} {gb : Int64} {f : Nat → Int32} (h : QG n t gb f) {ce : Int32} (hc : 0 ≤ ce.toInt ∧ ce.toInt ≤ 63) (q : onB gb ce.toInt = true) (h2 : ∀ k : Int, 0 ≤ k → k < n.toInt → tget t n.toInt 5 k (0 : Int32).toInt ≠ ce) : False := by
  obtain ⟨r, a, b, e⟩ := h.2.2.2.1 ce.toInt hc.1 hc.2 q
  exact h2 r a b (Int32.toInt_inj.mp e)
theorem gl_col {n : Int32} {t : Nat → Int32} {gb : Int64} {f : Nat → Int32} (h : QG n t gb f) {r x c : Int32} {k : Nat} (h0 : 0 ≤ r.toInt ∧ r.toInt < n.toInt) (e : x = tget t n.toInt 5 r.toInt c.toInt) (hk : c.toInt = (k : Int)) (k5 : k < 5) : f (80 + 5 * r.toInt.toNat + k) = x := by
  obtain ⟨hb, e0, ht, _⟩ := h
  have y := ht r.toInt.toNat k (by omega) k5
  rw [y, e, hk, show ((r.toInt.toNat : Nat) : Int) = r.toInt by omega]
theorem bd_col {n : Int32} {t f : Nat → Int32} (h1 : HTb 110 24 24 n.toInt t f) {r x c : Int32} (h0 : 0 ≤ r.toInt ∧ r.toInt < n.toInt) (hc : 0 ≤ c.toInt ∧ c.toInt ≤ 23) (e : x = tget t n.toInt 24 r.toInt c.toInt) : f (110 + 24 * r.toInt.toNat + c.toInt.toNat) = x := by
  have y := h1 r.toInt.toNat c.toInt.toNat (by omega) (by omega)
  rw [y, e, show ((r.toInt.toNat : Nat) : Int) = r.toInt by omega, show ((c.toInt.toNat : Nat) : Int) = c.toInt by omega]
theorem met_c {f : Nat → Int32} {w : LWF} {hg ce wy ho br th pts g so la du cv le : Int32} (h : glassF f ce = g) (h0 : 0 ≤ g.toInt) (e1 : f (80 + 5 * g.toInt.toNat + 1) = so) (e2 : f (80 + 5 * g.toInt.toNat + 2) = la) (e3 : f (80 + 5 * g.toInt.toNat + 3) = du) (e4 : f (80 + 5 * g.toInt.toNat + 4) = cv) (e5 : f 4 = le) : meetF f w hg ce wy ho br th pts = turnF w g so la du (isQ cv ho) le ce wy ho br th pts := by
  rw [met_g h h0, e1, e2, e3, e4, e5]
theorem wr_all : ∀ so : Nat, so < 6 → ∀ wy : Nat, wy < 4 → 2 ≤ so → ((nI so).toInt - 2 = ((nI wy) ^^^ 2).toInt ↔ (nI wy).toInt = (nI so).toInt % 4) := by decide +kernel
theorem wr_of {so wy : Int32} (hs : 2 ≤ so.toInt ∧ so.toInt ≤ 5) (hw : 0 ≤ wy.toInt ∧ wy.toInt ≤ 3) : so.toInt - 2 = (wy ^^^ 2).toInt ↔ wy.toInt = so.toInt % 4 := by
  have z := wr_all so.toInt.toNat (by omega) wy.toInt.toNat (by omega) (by omega)
  rw [← g5_nI (x := so) (by omega), ← g5_nI (x := wy) hw.1] at z; exact z
theorem ns_of {w : LWF} {so wy : Int32} {q : Nat → Int64} {cov : Prop} (h1 : ¬ cov) (h2 : toldW w 2 q = none) (h3 : ¬ (2 ≤ so.toInt ∧ wy.toInt ≠ so.toInt % 4)) : ¬ (cov ∨ toldW w 2 q ≠ none ∨ (2 ≤ so.toInt ∧ wy.toInt ≠ so.toInt % 4)) :=
  fun z => z.elim h1 (fun y => y.elim (fun x => x h2) h3)
theorem tW_of {w : LWF} {L : List CLT} {h : Int} {i : Int32} {q : Nat → Int64} {x : Option Int64} (hw : w = some L) (hi : i.toInt = h) (ht : toldX L i.toInt q = x) : toldW w h q = x := by
  subst hw; rw [← hi]; exact ht
theorem tW_n {w : LWF} {h : Int} {q : Nat → Int64} (hw : w = none) : toldW w h q = none := by subst hw; rfl
theorem nw_0 {so wy : Int32} (h : so.toInt = 0) : nwF so wy = wy ^^^ 1 := by unfold nwF; rw [if_pos h]
theorem nw_1 {so wy : Int32} (h : so.toInt = 1) : nwF so wy = 3 - wy := by unfold nwF; rw [if_neg (by omega), if_pos h]
theorem nw_2 {so wy : Int32} (h : so.toInt ≠ 0) (h1 : so.toInt ≠ 1) : nwF so wy = wy ^^^ 2 := by unfold nwF; rw [if_neg h, if_neg h1]
/-! the model's judge, step by step -/
def GN (op ar : Nat → Int32) (q : Nat → Int64) (e a n : Int32) (st : Nat → Int64) : Option (Nat × (Nat → Int64)) := goE false op ar q e.toInt.toNat a.toInt.toNat n.toInt.toNat st
theorem bv_26o {o : Int} {a b : Int64} (h : o < 20 ∨ 26 ≤ o) : bv o a b = if a = b then 1 else 0 := by
  unfold bv; rw [if_neg (by omega), if_neg (by omega), if_neg (by omega), if_neg (by omega), if_neg (by omega), if_neg (by omega)]
theorem bn_e1 {o : Int} {a b : Int64} (h : o < 20 ∨ 26 ≤ o) (c : (lg_cmp a b).toInt = 0) : bv o a b = 1 := by
  rw [bv_26o h, if_pos]
  have z := g5_cmpI a b
  exact Int64.toInt_inj.mp (by omega)
theorem bn_e0 {o : Int} {a b : Int64} (h : o < 20 ∨ 26 ≤ o) (c : (lg_cmp a b).toInt ≠ 0) : bv o a b = 0 := by
  rw [bv_26o h, if_neg]
  have z := g5_cmpI a b
  exact fun q => by rw [q] at z c; omega
theorem bo_1 {o : Int} {a b v : Int64} (h : ¬ (o = 23 ∧ b = 0)) (hv : v = bv o a b) (r : -1000000000 ≤ v.toInt ∧ v.toInt ≤ 1000000000) : bo o a b = some v := by
  unfold bo; rw [if_neg h, ← hv, if_pos r]
theorem bo_r {o : Int} {a b v : Int64} (h : ¬ (o = 23 ∧ b = 0)) (hv : v = bv o a b) (r : v.toInt < -1000000000 ∨ 1000000000 < v.toInt) : bo o a b = none := by
  unfold bo; rw [if_neg h, ← hv, if_neg (fun z => by omega)]
theorem bo_d {o : Int} {a b : Int64} (h : o = 23 ∧ b = 0) : bo o a b = none := by
  unfold bo; rw [if_pos h]
theorem in_q {v : Int64} : (0 ≤ (lg_cmp v (-1000000000)).toInt ↔ -1000000000 ≤ v.toInt) ∧ ((lg_cmp v 1000000000).toInt ≤ 0 ↔ v.toInt ≤ 1000000000) := by
  have z1 := g5_cmpI v (-1000000000)
  have z2 := g5_cmpI v 1000000000
  have e1 : (-1000000000 : Int64).toInt = -1000000000 := by decide
  have e2 : (1000000000 : Int64).toInt = 1000000000 := by decide
  exact ⟨⟨fun h => by omega, fun h => by omega⟩, ⟨fun h => by omega, fun h => by omega⟩⟩
section GNS
variable {op ar : Nat → Int32} {se st st' q : Nat → Int64} {e a a' n n' p p1 o x : Int32} {v : Int64}
theorem gn_end (h : e.toInt ≤ a.toInt) : GN op ar q e a n st = some (n.toInt.toNat, st) := goE_end (by omega)
theorem gn_num (hk : a.toInt < e.toInt) (h0 : 0 ≤ a.toInt ∧ 0 ≤ n.toInt) (e1 : op a.toInt.toNat = o) (e2 : ar a.toInt.toNat = x) (ho : o.toInt = 0) (ea : a'.toInt = a.toInt + 1) (en : n'.toInt = n.toInt + 1) (es : st' = vp_updL st n.toNatClampNeg x.toInt64) : GN op ar q e a n st = GN op ar q e a' n' st' := by
  have o0 : (op a.toInt.toNat).toInt = 0 := by rw [e1]; exact ho
  unfold GN
  rw [goE_leaf (by omega) (by omega) (fun z => by cases z), if_pos o0, e2, es, show a'.toInt.toNat = a.toInt.toNat + 1 by omega, show n'.toInt.toNat = n.toInt.toNat + 1 by omega]
  rfl
theorem gn_word (hq : ∀ j : Nat, j < 8 → q j = se (j + 1)) (hk : a.toInt < e.toInt) (h0 : 0 ≤ a.toInt ∧ 0 ≤ n.toInt) (e1 : op a.toInt.toNat = o) (ho : 1 ≤ o.toInt ∧ o.toInt ≤ 8) (ea : a'.toInt = a.toInt + 1) (en : n'.toInt = n.toInt + 1) (es : st' = vp_updL st n.toNatClampNeg (se o.toNatClampNeg)) : GN op ar q e a n st = GN op ar q e a' n' st' := by
  have o0 : (op a.toInt.toNat).toInt = o.toInt := by rw [e1]
  have c := g5_clamp o
  unfold GN
  rw [goE_leaf (by omega) (by omega) (fun z => by cases z), if_neg (by omega), es, show a'.toInt.toNat = a.toInt.toNat + 1 by omega, show n'.toInt.toNat = n.toInt.toNat + 1 by omega, hq _ (by omega), show ((op a.toInt.toNat).toInt - 1).toNat + 1 = o.toNatClampNeg by omega]
  rfl
theorem gn_bin1 (hk : a.toInt < e.toInt) (h0 : 0 ≤ a.toInt) (e1 : op a.toInt.toNat = o) (ho : 20 ≤ o.toInt ∧ o.toInt < 27) (hp : 0 ≤ p.toInt) (ep : n.toInt = p.toInt + 2) (ep1 : p1.toInt = p.toInt + 1) (E : bo o.toInt (st p.toNatClampNeg) (st p1.toNatClampNeg) = some v) (ea : a'.toInt = a.toInt + 1) (es : st' = vp_updL st p.toNatClampNeg v) : GN op ar q e a n st = GN op ar q e a' p1 st' := by
  have o1 : (op a.toInt.toNat).toInt = o.toInt := by rw [e1]
  unfold GN
  rw [goE_bin1 (v := v) (by omega) ⟨by omega, by omega⟩ (fun z => by cases z) (by rw [o1, show n.toInt.toNat - 2 = p.toNatClampNeg by show _ = p.toInt.toNat; omega, show n.toInt.toNat - 1 = p1.toNatClampNeg by show _ = p1.toInt.toNat; omega]; exact E), es, show a'.toInt.toNat = a.toInt.toNat + 1 by omega, show p1.toInt.toNat = n.toInt.toNat - 1 by omega, show n.toInt.toNat - 2 = p.toNatClampNeg by show _ = p.toInt.toNat; omega]
theorem gn_bin0 (hk : a.toInt < e.toInt) (h0 : 0 ≤ a.toInt) (e1 : op a.toInt.toNat = o) (ho : 20 ≤ o.toInt ∧ o.toInt < 27) (hp : 0 ≤ p.toInt) (ep : n.toInt = p.toInt + 2) (ep1 : p1.toInt = p.toInt + 1) (E : bo o.toInt (st p.toNatClampNeg) (st p1.toNatClampNeg) = none) : GN op ar q e a n st = none := by
  have o1 : (op a.toInt.toNat).toInt = o.toInt := by rw [e1]
  exact goE_bin0 (by omega) ⟨by omega, by omega⟩ (by rw [o1, show n.toInt.toNat - 2 = p.toNatClampNeg by show _ = p.toInt.toNat; omega, show n.toInt.toNat - 1 = p1.toNatClampNeg by show _ = p1.toInt.toNat; omega]; exact E)
theorem gn_not (hk : a.toInt < e.toInt) (h0 : 0 ≤ a.toInt) (e1 : op a.toInt.toNat = o) (ho : o.toInt = 27) (hn : 1 ≤ n.toInt) (ep : p.toInt = n.toInt - 1) (ea : a'.toInt = a.toInt + 1) (es : st' = vp_updL st p.toNatClampNeg (1 - st p.toNatClampNeg)) : GN op ar q e a n st = GN op ar q e a' n st' := by
  have o1 : (op a.toInt.toNat).toInt = 27 := by rw [e1]; exact ho
  unfold GN
  rw [goE_not (by omega) o1 (fun z => by cases z), es, show a'.toInt.toNat = a.toInt.toNat + 1 by omega, show n.toInt.toNat - 1 = p.toNatClampNeg by show _ = p.toInt.toNat; omega]
theorem jpB_f {o : Int} {v : Int64} : jpB false o v = if o = 28 then decide (v = 0) else decide (v = 1) := by
  unfold jpB
  by_cases q : o = 28
  · rw [if_pos q, if_pos q]
  · rw [if_neg q, if_neg q, if_neg (by decide)]
theorem cmp_eq {x y : Int64} : (lg_cmp x y).toInt = 0 ↔ x = y := by
  have z := g5_cmpI x y
  exact ⟨fun h => Int64.toInt_inj.mp (by omega), fun h => by subst h; omega⟩
/-- a jump: at 28 over a 0, at 29 over a 1 -/
theorem gn_jmp {k : Int64} (hk : a.toInt < e.toInt) (h0 : 0 ≤ a.toInt) (e1 : op a.toInt.toNat = o) (e2 : ar a.toInt.toNat = x) (ho : 28 ≤ o.toInt ∧ o.toInt ≤ 29) (hn : 1 ≤ n.toInt) (ep : p.toInt = n.toInt - 1) (hkk : (o.toInt = 28 ∧ k = 0) ∨ (o.toInt ≠ 28 ∧ k = 1)) (c : (lg_cmp (st p.toNatClampNeg) k).toInt = 0) (hx : a.toInt < x.toInt) : GN op ar q e a n st = GN op ar q e x n st := by
  have o1 : (op a.toInt.toNat).toInt = o.toInt := by rw [e1]
  have es : n.toInt.toNat - 1 = p.toNatClampNeg := by show _ = p.toInt.toNat; omega
  have c := cmp_eq.mp c
  unfold GN
  refine goE_jmp1 (by omega) (by omega) (fun z => by cases z) ?_ (by rw [e2]; omega)
  rw [o1, es, jpB_f]
  rcases hkk with ⟨k1, k2⟩ | ⟨k1, k2⟩
  · rw [if_pos k1]; exact decide_eq_true (c.trans k2)
  · rw [if_neg k1]; exact decide_eq_true (c.trans k2)
theorem gn_drop {k : Int64} (hk : a.toInt < e.toInt) (h0 : 0 ≤ a.toInt) (e1 : op a.toInt.toNat = o) (ho : 28 ≤ o.toInt ∧ o.toInt ≤ 29) (hn : 1 ≤ n.toInt) (ep : p.toInt = n.toInt - 1) (hkk : (o.toInt = 28 ∧ k = 0) ∨ (o.toInt ≠ 28 ∧ k = 1)) (c : (lg_cmp (st p.toNatClampNeg) k).toInt ≠ 0) (ea : a'.toInt = a.toInt + 1) (en : n'.toInt = n.toInt - 1) : GN op ar q e a n st = GN op ar q e a' n' st := by
  have o1 : (op a.toInt.toNat).toInt = o.toInt := by rw [e1]
  have es : n.toInt.toNat - 1 = p.toNatClampNeg := by show _ = p.toInt.toNat; omega
  have c : st p.toNatClampNeg ≠ k := fun z => c (cmp_eq.mpr z)
  have j : jpB false (op a.toInt.toNat).toInt (st (n.toInt.toNat - 1)) = false := by
    rw [o1, es, jpB_f]
    rcases hkk with ⟨k1, k2⟩ | ⟨k1, k2⟩
    · rw [if_pos k1]; exact decide_eq_false (fun z => c (z.trans k2.symm))
    · rw [if_neg k1]; exact decide_eq_false (fun z => c (z.trans k2.symm))
  unfold GN
  rw [goE_jmp0 (by omega) (by omega) (fun z => by cases z) j, show a'.toInt.toNat = a.toInt.toNat + 1 by omega, show n'.toInt.toNat = n.toInt.toNat - 1 by omega]
end GNS
theorem rk_0 {op ar : Nat → Int32} {q st : Nat → Int64} {a b z bk : Int32} {va : Int64} (hz : z.toInt = 0) (hb : bk.toInt = 1) (h : GN op ar q b a z st = none) : RKM op ar q a.toInt.toNat b.toInt.toNat st bk va := by
  unfold GN at h
  rw [show z.toInt.toNat = 0 by omega] at h
  exact Or.inl ⟨hb, h⟩
theorem rk_1 {op ar : Nat → Int32} {q st st' : Nat → Int64} {a b z n bk : Int32} {va : Int64} (hz : z.toInt = 0) (hb : bk.toInt = 0) (h : GN op ar q b a z st = some (n.toInt.toNat, st')) (hv : (0 < n.toInt ∧ va = st' 0) ∨ (n.toInt ≤ 0 ∧ va = 0)) : RKM op ar q a.toInt.toNat b.toInt.toNat st bk va := by
  unfold GN at h
  rw [show z.toInt.toNat = 0 by omega] at h
  refine Or.inr ⟨hb, n.toInt.toNat, st', h, ?_⟩
  rcases hv with ⟨v1, v2⟩ | ⟨v1, v2⟩
  · rw [v2, if_pos (by omega)]
  · rw [v2, if_neg (by omega)]
/-! a clause of the model's -/
theorem ch_t0 {c : CLT} {q : Nat → Int64} {t : DS} (e : c.2.2 = some t) (h : t q = none ∨ t q = some 0) : clH c q = none := by
  unfold clH
  rw [e]
  rcases h with h | h
  · show (t q).bind _ = none
    rw [h]; rfl
  · show (t q).bind _ = none
    rw [h]; rfl
/-- its test holds, or it has none -/
def TSO (c : CLT) (q : Nat → Int64) : Prop := clH c q = (match c.2.1 with | some s => s q | none => some 0)
theorem tso_n {c : CLT} {q : Nat → Int64} (e : c.2.2 = none) : TSO c q := by
  obtain ⟨h, s, t⟩ := c
  have e : t = none := e
  subst e
  unfold TSO clH
  all_goals (cases s <;> rfl)
theorem tso_t {c : CLT} {q : Nat → Int64} {t : DS} {v : Int64} (e : c.2.2 = some t) (h : t q = some v) (hv : v ≠ 0) : TSO c q := by
  obtain ⟨hd, s, t0⟩ := c
  have e : t0 = some t := e
  subst e
  unfold TSO clH
  show (t q).bind _ = _
  rw [h]
  show (if v = 0 then none else _) = _
  rw [if_neg hv]
  all_goals (cases s <;> rfl)
theorem tso_s {c : CLT} {q : Nat → Int64} {d : DS} (T : TSO c q) (e : c.2.1 = some d) : clH c q = d q := by
  unfold TSO at T; rw [T, e]
theorem tso_0 {c : CLT} {q : Nat → Int64} (T : TSO c q) (e : c.2.1 = none) : clH c q = some 0 := by
  unfold TSO at T; rw [T, e]
section ISO
variable {op ar nl : Nat → Int32} {q st : Nat → Int64} {c : CLT} {bk h0 h3 h4 h5 h6 su : Int32} {va : Int64}
/-- the test was reckoned -/
theorem so_t (C : CLM op ar nl 0 c) (e5 : nl 5 = h5) (e6 : nl 6 = h6) (hlt : h5.toInt < h6.toInt) (r : RKM op ar q h5.toInt.toNat h6.toInt.toNat st bk va) : (clH c q = none ∧ (bk.toInt = 1 ∨ va = 0)) ∨ (TSO c q ∧ bk.toInt = 0 ∧ va ≠ 0) := by
  obtain ⟨_, _, c2⟩ := C
  have c2 : (c.2.2 = none ∧ nl 5 = nl 6) ∨ ∃ t, c.2.2 = some t ∧ is01 t ∧ MC op ar (nl 5).toInt.toNat (nl 6).toInt.toNat t := c2
  rcases c2 with ⟨_, y⟩ | ⟨t, t1, _, t3⟩
  · rw [e5, e6] at y
    rw [y] at hlt; omega
  · rw [e5, e6] at t3
    rcases rk_mc t3 r with ⟨a, b⟩ | ⟨v, a, b, d⟩
    · exact Or.inl ⟨ch_t0 t1 (Or.inl a), Or.inl b⟩
    · by_cases y : v = 0
      · exact Or.inl ⟨ch_t0 t1 (Or.inr (by rw [a, y])), Or.inr (d.trans y)⟩
      · exact Or.inr ⟨tso_t t1 a y, b, by rw [d]; exact y⟩
theorem so_n (C : CLM op ar nl 0 c) (e5 : nl 5 = h5) (e6 : nl 6 = h6) (hge : h6.toInt ≤ h5.toInt) : TSO c q := by
  obtain ⟨_, _, c2⟩ := C
  have c2 : (c.2.2 = none ∧ nl 5 = nl 6) ∨ ∃ t, c.2.2 = some t ∧ is01 t ∧ MC op ar (nl 5).toInt.toNat (nl 6).toInt.toNat t := c2
  rcases c2 with ⟨y, _⟩ | ⟨t, t1, _, t3⟩
  · exact tso_n y
  · have z := mc_lt t3
    rw [e5, e6] at z
    omega
/-- the sum was reckoned -/
theorem so_s (C : CLM op ar nl 0 c) (T : TSO c q) (e0 : nl 0 = h0) (e3 : nl 3 = h3) (e4 : nl 4 = h4) (h2 : h0.toInt < 2) (r : RKM op ar q h3.toInt.toNat h4.toInt.toNat st bk va) : (clH c q = none ∧ bk.toInt = 1) ∨ (clH c q = some va ∧ bk.toInt = 0) := by
  obtain ⟨c0, c1, _⟩ := C
  have c0 : (nl 0).toInt = c.1 := c0
  have c1 : (c.2.1 = none ∧ 2 ≤ c.1) ∨ ∃ d, c.2.1 = some d ∧ c.1 < 2 ∧ MC op ar (nl 3).toInt.toNat (nl 4).toInt.toNat d := c1
  rw [e0] at c0
  rcases c1 with ⟨_, y⟩ | ⟨d, d1, _, d3⟩
  · omega
  · rw [e3, e4] at d3
    rcases rk_mc d3 r with ⟨a, b⟩ | ⟨v, a, b, z⟩
    · exact Or.inl ⟨by rw [tso_s T d1]; exact a, b⟩
    · exact Or.inr ⟨by rw [tso_s T d1, z]; exact a, b⟩
theorem so_00 (C : CLM op ar nl 0 c) (T : TSO c q) (e0 : nl 0 = h0) (h2 : 2 ≤ h0.toInt) : clH c q = some 0 ∧ 2 ≤ c.1 := by
  obtain ⟨c0, c1, _⟩ := C
  have c0 : (nl 0).toInt = c.1 := c0
  have c1 : (c.2.1 = none ∧ 2 ≤ c.1) ∨ ∃ d, c.2.1 = some d ∧ c.1 < 2 ∧ MC op ar (nl 3).toInt.toNat (nl 4).toInt.toNat d := c1
  rw [e0] at c0
  rcases c1 with ⟨y, z⟩ | ⟨d, _, z, _⟩
  · exact ⟨tso_0 T y, z⟩
  · omega
end ISO
/-! a law of the model's asked -/
def MLF (ro : Nat → Int32) (w : LWF) : Prop := ((ro 3).toInt = -1 ∧ w = none) ∨ (0 ≤ (ro 3).toInt ∧ ∃ L : List CLT, w = some L ∧ MLAW ro (ro 3).toInt.toNat L)
def askA (t : Option Int64) (h : Int) (wo m : Int32) : Int32 :=
  match t with
  | none => wo
  | some v => if h < 2 then clampQ v m else 1
/-- what was told so far -/
def tlQ (t : Option Int64) (h : Int) (wo : Int32) : Int64 :=
  match t with
  | none => wo.toInt64
  | some v => if h < 2 then v else 1
section ASK
variable {L : List CLT} {k : Nat} {c : CLT} {h : Int} {q : Nat → Int64} {wo m r : Int32} {t t' : Int64}
theorem tl_0 : wo.toInt64 = tlQ (toldX (L.take 0) h q) h wo := rfl
theorem tl_no (T : t = tlQ (toldX (L.take k) h q) h wo) (e : L[k]? = some c) (n : c.1 ≠ h ∨ clH c q = none) : t = tlQ (toldX (L.take (k + 1)) h q) h wo := by
  rw [tX_no e n]; exact T
theorem tl_s {v : Int64} (e : L[k]? = some c) (y : c.1 = h) (n : clH c q = some v) (h2 : h < 2) (hv : t = v) : t = tlQ (toldX (L.take (k + 1)) h q) h wo := by
  rw [tX_yes e y n]
  show t = if h < 2 then v else 1
  rw [if_pos h2]; exact hv
theorem tl_1 {v : Int64} (e : L[k]? = some c) (y : c.1 = h) (n : clH c q = some v) (h2 : ¬ h < 2) : (1 : Int64) = tlQ (toldX (L.take (k + 1)) h q) h wo := by
  rw [tX_yes e y n]
  show (1 : Int64) = if h < 2 then v else 1
  rw [if_neg h2]
/-- the answer, within its range -/
theorem clq_lo {v : Int64} (h0 : 0 ≤ m.toInt) (c : (lg_cmp v 0).toInt < 0) : clampQ v m = 0 := by
  have z := g5_cmpI v 0
  have z0 : (0 : Int64).toInt = 0 := by decide
  have e : m.toInt64.toInt = m.toInt := Int32.toInt_toInt64 m
  have e1 : (if v < m.toInt64 then v else m.toInt64) = v := if_pos (Int64.lt_iff_toInt_lt.mpr (by omega))
  unfold clampQ
  rw [e1, if_pos (Int64.lt_iff_toInt_lt.mpr (by omega))]; rfl
theorem clq_hi {v : Int64} (h0 : 0 ≤ m.toInt) (c : 0 < (lg_cmp v m.toInt64).toInt) : clampQ v m = m := by
  have z := g5_cmpI v m.toInt64
  have z0 : (0 : Int64).toInt = 0 := by decide
  have e : m.toInt64.toInt = m.toInt := Int32.toInt_toInt64 m
  have e1 : (if v < m.toInt64 then v else m.toInt64) = m.toInt64 := if_neg (fun q => by have y := Int64.lt_iff_toInt_lt.mp q; omega)
  unfold clampQ
  rw [e1, if_neg (fun q => by have y := Int64.lt_iff_toInt_lt.mp q; omega)]
  exact Int32.toInt_inj.mp (by rw [Int64.toInt_toInt32, e]; have r := g5_rg m; exact g5_bm (by omega) (by omega))
theorem clq_mid {v : Int64} (h0 : 0 ≤ m.toInt) (c : 0 ≤ (lg_cmp v 0).toInt) (d : (lg_cmp v m.toInt64).toInt ≤ 0) : clampQ v m = v.toInt32 := by
  have z := g5_cmpI v m.toInt64
  have z1 := g5_cmpI v 0
  have z0 : (0 : Int64).toInt = 0 := by decide
  have e : m.toInt64.toInt = m.toInt := Int32.toInt_toInt64 m
  unfold clampQ
  by_cases q : v < m.toInt64
  · have e1 : (if v < m.toInt64 then v else m.toInt64) = v := if_pos q
    rw [e1, if_neg (fun q => by have y := Int64.lt_iff_toInt_lt.mp q; omega)]
  · have ev : v = m.toInt64 := by
      have y : ¬ v.toInt < m.toInt64.toInt := fun r => q (Int64.lt_iff_toInt_lt.mpr r)
      exact Int64.toInt_inj.mp (by omega)
    have e1 : (if v < m.toInt64 then v else m.toInt64) = v := by rw [if_neg q, ev]
    rw [e1, if_neg (fun q => by have y := Int64.lt_iff_toInt_lt.mp q; omega)]
theorem ans_of {x : Option Int64} (T : t = tlQ x h wo) (h0 : 0 ≤ wo.toInt ∧ wo.toInt ≤ m.toInt) (h1 : h < 2 ∨ m.toInt = 1) : clampQ t m = askA x h wo m := by
  cases x with
  | none =>
    have T : t = wo.toInt64 := T
    show _ = wo
    have e : wo.toInt64.toInt = wo.toInt := Int32.toInt_toInt64 wo
    have em : m.toInt64.toInt = m.toInt := Int32.toInt_toInt64 m
    have z1 := g5_cmpI wo.toInt64 0
    have z2 := g5_cmpI wo.toInt64 m.toInt64
    have z0 : (0 : Int64).toInt = 0 := by decide
    rw [T, clq_mid (by omega) (by omega) (by omega)]
    exact Int32.toInt_inj.mp (by rw [Int64.toInt_toInt32, e]; have r := g5_rg wo; exact g5_bm (by omega) (by omega))
  | some v =>
    have T : t = if h < 2 then v else 1 := T
    show _ = if h < 2 then clampQ v m else 1
    by_cases q : h < 2
    · rw [if_pos q] at T ⊢; rw [T]
    · rw [if_neg q] at T ⊢
      have hm : m = 1 := Int32.toInt_inj.mp (by have y := h1.resolve_left q; rw [y]; decide)
      rw [T, hm]; decide
end ASK
theorem ask_m {f : Nat → Int64} {g ce ho wy bo n br b7 : Int32} (hc : 0 ≤ ce.toInt ∧ ce.toInt ≤ 63) (hb : b7.toInt = br.toInt / 1000) : ∀ j : Nat, j < 8 → askQ g ce ho wy bo n br j = (vp_updL (vp_updL (vp_updL (vp_updL (vp_updL (vp_updL (vp_updL (vp_updL f 1 g.toInt64) 2 (ce % 8).toInt64) 3 (ce / 8).toInt64) 4 ho.toInt64) 5 wy.toInt64) 6 bo.toInt64) 7 n.toInt64) 8 b7.toInt64) (j + 1) := by
  intro j hj
  obtain ⟨_, _, c1, c2⟩ := ak_ce hc
  unfold askQ
  rw [← c1, ← c2, ← hb, ← ofInt_i (x := b7) rfl]
  rcases (show j = 0 ∨ j = 1 ∨ j = 2 ∨ j = 3 ∨ j = 4 ∨ j = 5 ∨ j = 6 ∨ j = 7 by omega) with e | e | e | e | e | e | e | e <;> (subst e; unfold vp_updL; simp)
/-- the clause at its place in the row -/
theorem clm_sh {op ar nl : Nat → Int32} {k : Nat} {c : CLT} (h : CLM op ar nl k c) : CLM op ar (fun j => nl (k + j)) 0 c := h
theorem clm_at {ro : Nat → Int32} {i k B P : Nat} {L : List CLT} {c : CLT} (h : MLAW ro i L) (e : L[k]? = some c) (hB : B = 340 + 900 * i) (hP : P = B + 2 + 8 * k) : CLM (fun j => ro (B + 98 + 2 * j)) (fun j => ro (B + 98 + 2 * j + 1)) (fun j => ro (P + j)) 0 c := by
  subst hB; subst hP
  have z := clm_sh (h.2 k c e)
  have e2 : (fun j => (fun k => ro (340 + 900 * i + 2 + k)) (8 * k + j)) = fun j => ro (340 + 900 * i + 2 + 8 * k + j) := funext (fun j => by
    show ro _ = ro _
    congr 1; omega)
  rw [e2] at z
  exact z
/-! what is asked of looks -/
section LQS
variable {f k : Nat → Int32} {w : LWF} {c y h se n br th lh t i b : Int32}
end LQS
section FST
variable {f : Nat → Int32} {w : LWF} {b h h' o o' z v r t : Int32}
end FST
/-! the model's -/
/-! what is seen by anybody at any time -/
section BOXS
variable {bo bo' : Nat → Int64} {ip ip' : Nat → Int32} {M M' : Int → Prop}
end BOXS
section MKS
variable {f k : Nat → Int32} {w : LWF} {c y y' h h' b b' z se n br th : Int32} {p : Int}
end MKS
section CNT
variable {P : Nat → Prop} {n n' h h' : Int32}
end CNT
section MKM
variable {f : Nat → Int32} {w : LWF} {h h' b z : Int32} {p : Int} {A : Prop}
end MKM
/-! a long's bits counted; what is lit -/
section LIT
variable {M M' : Int → Prop} {b b' : Int64} {f k : Nat → Int32} {w : LWF} {c y y' h t x r n se br th o : Int32} {p : Int}
end LIT
/-! who wanders is seen so many hours -/
section WAN
variable {f : Nat → Int32} {w : LWF} {s c n h : Int32}
end WAN
section WDA
variable {f g r : Nat → Int32} {s : Int64} {c : Int} {k k' v i : Int32}
end WDA
/-! spots that are hung -/
/-- a bit of a number -/
theorem isq_bit {x k : Int32} (h : 0 ≤ k.toInt ∧ k.toInt < 32) : isQ x k ↔ x.toBitVec.getLsbD k.toInt.toNat = true := by
  have key : ∀ n : Nat, n < 32 → ((nI n &&& 31).toBitVec.toNat = n) := by decide +kernel
  have ek : (k &&& 31).toBitVec.toNat = k.toInt.toNat := by
    have z := key k.toInt.toNat (by omega)
    rw [← g5_nI h.1] at z; exact z
  have b0 : ((x >>> (k &&& 31)) &&& 1).toBitVec.getLsbD 0 = x.toBitVec.getLsbD k.toInt.toNat := by
    rw [Int32.toBitVec_and, BitVec.getLsbD_and, Int32.toBitVec_shiftRight]
    have e1 : (1 : Int32).toBitVec.getLsbD 0 = true := by decide
    rw [e1, Bool.and_true]
    have em : ((k &&& 31).toBitVec.smod 32) = (k &&& 31).toBitVec := by
      have q : ∀ n : Nat, n < 32 → ((nI n &&& 31).toBitVec.smod 32) = (nI n &&& 31).toBitVec := by decide +kernel
      have z := q k.toInt.toNat (by omega)
      rw [← g5_nI h.1] at z; exact z
    rw [em, BitVec.sshiftRight_eq', BitVec.getLsbD_sshiftRight, ek]
    rw [decide_eq_false (show ¬ ((32 : Nat) ≤ 0) by omega), if_pos (show k.toInt.toNat + 0 < 32 by omega)]
    rfl
  have hb : ∀ i : Nat, 0 < i → ((x >>> (k &&& 31)) &&& 1).toBitVec.getLsbD i = false := by
    intro i hi
    rw [Int32.toBitVec_and, BitVec.getLsbD_and]
    have e1 : (1 : Int32).toBitVec.getLsbD i = false := by
      by_cases q : i < 32
      · have z : ∀ j : Nat, j < 32 → 0 < j → (1 : Int32).toBitVec.getLsbD j = false := by decide +kernel
        exact z i q hi
      · exact BitVec.getLsbD_of_ge _ _ (by omega)
    rw [e1, Bool.and_false]
  unfold isQ
  rw [← b0]
  generalize (x >>> (k &&& 31)) &&& 1 = y at hb ⊢
  constructor
  · intro q
    by_cases z : y.toBitVec.getLsbD 0 = true
    · exact z
    · refine absurd ?_ q
      have e : y = 0 := by
        apply Int32.toBitVec_inj.mp
        apply BitVec.eq_of_getLsbD_eq
        intro i hi
        have e0 : (0 : Int32).toBitVec.getLsbD i = false := by simp
        rw [e0]
        by_cases i0 : i = 0
        · rw [i0]; simpa using z
        · exact hb i (by omega)
      rw [e]; decide
  · intro q z
    have e : y = 0 := Int32.toInt_inj.mp (z.trans (by decide))
    rw [e] at q
    exact absurd q (by decide)
theorem isq_hi {x k s : Int32} (h : 0 ≤ k.toInt ∧ k.toInt ≤ 8) (z : (x >>> (k &&& 31)).toInt = 0) (hs : k.toInt ≤ s.toInt ∧ s.toInt < 32) : ¬ isQ x s := by
  rw [isq_bit ⟨by omega, hs.2⟩]
  have e : x >>> (k &&& 31) = 0 := Int32.toInt_inj.mp (z.trans (by decide))
  have key : ∀ n : Nat, n < 32 → ((nI n &&& 31).toBitVec.toNat = n ∧ ((nI n &&& 31).toBitVec.smod 32) = (nI n &&& 31).toBitVec) := by decide +kernel
  have ek := key k.toInt.toNat (by omega)
  rw [← g5_nI h.1] at ek
  have b : (x >>> (k &&& 31)).toBitVec.getLsbD (s.toInt.toNat - k.toInt.toNat) = x.toBitVec.getLsbD s.toInt.toNat := by
    rw [Int32.toBitVec_shiftRight, ek.2, BitVec.sshiftRight_eq', BitVec.getLsbD_sshiftRight, ek.1]
    have h1 : k.toInt.toNat + (s.toInt.toNat - k.toInt.toNat) = s.toInt.toNat := by omega
    have h2 : s.toInt.toNat < 32 := by omega
    have h3 : s.toInt.toNat - k.toInt.toNat < 32 := by omega
    rw [h1, decide_eq_false (show ¬ (32 ≤ s.toInt.toNat - k.toInt.toNat) by omega), if_pos h2]
    rfl
  rw [← b, e]
  simp
/-- the board of the first m spots that are hung -/
def HUB (b : Int64) (t : Nat → Int32) (n : Int) (hg : Int32) (m : Int) : Prop := ∀ c : Int, 0 ≤ c → c ≤ 63 → (onB b c = true ↔ ∃ s : Nat, (s : Int) < m ∧ isQ hg (Int32.ofNat s) ∧ (tget t n 5 s (0 : Int32).toInt).toInt = c)
section HUBS
variable {b b' : Int64} {t : Nat → Int32} {n m : Int} {hg s s' z : Int32}
theorem hub_0 (h : m = 0) : HUB 0 t n hg m := by
  intro c _ _
  rw [onB_zero]
  exact ⟨fun q => absurd q (by decide), fun ⟨s, a, _⟩ => by omega⟩
theorem hub_y (H : HUB b t n hg s.toInt) (h0 : 0 ≤ s.toInt) (q : isQ hg s) (ez : z = tget t n 5 s.toInt (0 : Int32).toInt) (hz : 0 ≤ z.toInt ∧ z.toInt ≤ 63) (hs : s'.toInt = s.toInt + 1) (e : b' = b ||| ((1 : Int64) <<< (z.toInt64 &&& 63))) : HUB b' t n hg s'.toInt := by
  subst e
  intro c c0 c1
  have es : Int32.ofNat s.toInt.toNat = s := nat_i (by omega)
  have en : ((s.toInt.toNat : Nat) : Int) = s.toInt := by omega
  rw [onB_bit hz c0 c1, Bool.or_eq_true, decide_eq_true_eq, H c c0 c1]
  constructor
  · rintro (⟨k, a, y, w⟩ | y)
    · exact ⟨k, by omega, y, w⟩
    · exact ⟨s.toInt.toNat, by omega, by rw [es]; exact q, by rw [en, ← ez]; exact y.symm⟩
  · rintro ⟨k, a, y, w⟩
    by_cases k1 : k = s.toInt.toNat
    · subst k1
      rw [en, ← ez] at w
      exact Or.inr w.symm
    · exact Or.inl ⟨k, by omega, y, w⟩
theorem hub_n (H : HUB b t n hg s.toInt) (h0 : 0 ≤ s.toInt) (q : ¬ isQ hg s) (hs : s'.toInt = s.toInt + 1) : HUB b t n hg s'.toInt := by
  intro c c0 c1
  have es : Int32.ofNat s.toInt.toNat = s := nat_i (by omega)
  rw [H c c0 c1]
  constructor
  · rintro ⟨k, a, y, w⟩
    exact ⟨k, by omega, y, w⟩
  · rintro ⟨k, a, y, w⟩
    by_cases k1 : k = s.toInt.toNat
    · subst k1
      rw [es] at y
      exact absurd y q
    · exact ⟨k, by omega, y, w⟩
/-- no bit is left -/
theorem hub_e (H : HUB b t n hg s.toInt) (h0 : 0 ≤ s.toInt ∧ s.toInt ≤ 8) (hm : s.toInt ≤ m ∧ m ≤ 8) (z : (hg >>> (s &&& 31)).toInt = 0) : HUB b t n hg m := by
  intro c c0 c1
  rw [H c c0 c1]
  constructor
  · rintro ⟨k, a, y, w⟩
    exact ⟨k, by omega, y, w⟩
  · rintro ⟨k, a, y, w⟩
    by_cases k1 : (k : Int) < s.toInt
    · exact ⟨k, k1, y, w⟩
    · have ek : (Int32.ofNat k).toInt = (k : Int) := by
        have z9 : ∀ j : Nat, j < 8 → (Int32.ofNat j).toInt = (j : Int) := by decide
        exact z9 k (by omega)
      exact absurd y (isq_hi h0 z (by omega))
theorem hub_m (H : HUB b t n hg s.toInt) (h : s.toInt = m) : HUB b t n hg m := by rw [← h]; exact H
end HUBS
theorem spo_no {f : Nat → Int32} {hg ce : Int32} : ∀ m s : Nat, (∀ k : Nat, s ≤ k → k < s + m → ¬ (isQ hg (Int32.ofNat k) ∧ f (270 + 3 * k) = ce)) → spoF f hg ce m s = -1 := by
  intro m
  induction m with
  | zero => intro s _; rfl
  | succ m ih =>
    intro s h
    show cif _ _ _ = _
    rw [cif_f (h s (by omega) (by omega))]
    exact ih (s + 1) (fun k a b => h k (by omega) (by omega))
theorem sp_cell {n : Int32} {t f : Nat → Int32} (h : QP n t f) {k : Nat} (hk : (k : Int) < n.toInt) : f (270 + 3 * k) = tget t n.toInt 5 k (0 : Int32).toInt := by
  have z0 : (0 : Int32).toInt = 0 := by decide
  have y := h.2.2.1 k 0 hk (by omega)
  rw [z0, show 270 + 3 * k = 270 + 3 * k + 0 by omega, y]; rfl
theorem sp_bit {n hg ce : Int32} {t f : Nat → Int32} {b : Int64} (h : QP n t f) (H : HUB b t n.toInt hg n.toInt) (hc : 0 ≤ ce.toInt ∧ ce.toInt ≤ 63) (q : onB b ce.toInt = false) : spotF f hg ce = -1 := by
  refine spo_no _ _ (fun k _ hk y => ?_)
  rw [h.2.1] at hk
  have hk2 : (k : Int) < n.toInt := by omega
  have z := (H ce.toInt hc.1 hc.2).mpr ⟨k, hk2, y.1, by rw [← sp_cell h hk2, y.2]⟩
  rw [q] at z; exact absurd z (by decide)
theorem sp_on {n hg ce : Int32} {t f : Nat → Int32} {b : Int64} (H : HUB b t n.toInt hg n.toInt) (hc : 0 ≤ ce.toInt ∧ ce.toInt ≤ 63) (q : onB b ce.toInt = true) (h2 : ∀ k : Int, 0 ≤ k → k < n.toInt → tget t n.toInt 5 k (0 : Int32).toInt ≠ ce) : False := by
  obtain ⟨s, a, _, e⟩ := (H ce.toInt hc.1 hc.2).mp q
  exact h2 s (by omega) a (Int32.toInt_inj.mp e)
/-- the first spot with the cell is the one that is hung -/
theorem sp_find {n hg ce r : Int32} {t f : Nat → Int32} {b : Int64} (h : QP n t f) (H : HUB b t n.toInt hg n.toInt) (hc : 0 ≤ ce.toInt ∧ ce.toInt ≤ 63) (q : onB b ce.toInt = true) (h0 : 0 ≤ r.toInt ∧ r.toInt < n.toInt) (h1 : tget t n.toInt 5 r.toInt (0 : Int32).toInt = ce) (h2 : ∀ k : Int, 0 ≤ k → k < r.toInt → tget t n.toInt 5 k (0 : Int32).toInt ≠ ce) : spotF f hg ce = r := by
  obtain ⟨s, a, hq, e⟩ := (H ce.toInt hc.1 hc.2).mp q
  have e : tget t n.toInt 5 s (0 : Int32).toInt = ce := Int32.toInt_inj.mp e
  have z0 : (0 : Int32).toInt = 0 := by decide
  have es : (s : Int) = r.toInt := by
    rcases (show (s : Int) < r.toInt ∨ (s : Int) = r.toInt ∨ r.toInt < (s : Int) by omega) with y | y | y
    · exact absurd e (h2 s (by omega) y)
    · exact y
    · have w := (h.2.2.2 s (by omega) a).2.2 r.toInt h0.1 y
      rw [z0] at h1 e
      exact absurd (h1.trans e.symm) w
  have er : Int32.ofNat s = r := nat_i es.symm
  rw [er] at hq
  have e7 : (f 7).toInt = n.toInt := by rw [h.2.1]
  have key : ∀ k : Nat, (k : Int) ≤ r.toInt → spotF f hg ce = spoF f hg ce ((f 7).toInt - k).toNat k := by
    intro k
    induction k with
    | zero => intro _; unfold spotF; congr 1; omega
    | succ k ih =>
      intro hk
      rw [ih (by omega), show ((f 7).toInt - (k : Int)).toNat = ((f 7).toInt - ((k + 1 : Nat) : Int)).toNat + 1 by omega]
      show cif _ _ _ = _
      rw [cif_f (fun z => h2 k (by omega) (by omega) ((sp_cell h (by omega)).symm.trans z.2))]
  rw [key r.toInt.toNat (by omega)]
  obtain ⟨m, em⟩ : ∃ m', ((f 7).toInt - (r.toInt.toNat : Int)).toNat = m' + 1 := ⟨((f 7).toInt - (r.toInt.toNat : Int)).toNat - 1, by omega⟩
  rw [em]
  show cif _ _ _ = _
  rw [nat_i (n := r) (by omega), cif_t ⟨hq, by rw [sp_cell h (by omega), show ((r.toInt.toNat : Nat) : Int) = r.toInt by omega]; exact h1⟩]
theorem sp_col {n r x c : Int32} {t f : Nat → Int32} {k : Nat} (h : QP n t f) (h0 : 0 ≤ r.toInt ∧ r.toInt < n.toInt) (e : x = tget t n.toInt 5 r.toInt c.toInt) (hk : c.toInt = (k : Int)) (k3 : k < 3) : f (270 + 3 * r.toInt.toNat + k) = x := by
  have y := h.2.2.1 r.toInt.toNat k (by omega) k3
  rw [y, e, hk, show ((r.toInt.toNat : Nat) : Int) = r.toInt by omega]
theorem sp_z3 {n r x : Int32} {t f : Nat → Int32} (h : QP n t f) (h0 : 0 ≤ r.toInt ∧ r.toInt < n.toInt) (e : x = tget t n.toInt 5 r.toInt (3 : Int32).toInt) : x.toInt = 0 := by
  have z3 : (3 : Int32).toInt = 3 := by decide
  rw [e, z3]; exact (h.2.2.2 r.toInt h0.1 h0.2).1
theorem sp_z4 {n r x : Int32} {t f : Nat → Int32} (h : QP n t f) (h0 : 0 ≤ r.toInt ∧ r.toInt < n.toInt) (e : x = tget t n.toInt 5 r.toInt (4 : Int32).toInt) : x.toInt = 0 := by
  have z4 : (4 : Int32).toInt = 4 := by decide
  rw [e, z4]; exact (h.2.2.2 r.toInt h0.1 h0.2).2.1
theorem q0_z {x k : Int32} (h : x.toInt = 0) : ((x >>> (k &&& 31)) &&& 1).toInt = 0 := by
  have e : x = 0 := Int32.toInt_inj.mp (h.trans (by decide))
  by_cases q : ((x >>> (k &&& 31)) &&& 1).toInt = 0
  · exact q
  · exact absurd q (isQ_0 e)
theorem met_sc {f : Nat → Int32} {w : LWF} {hg ce wy ho br th pts g so la du le : Int32} (h : glassF f ce = -1) (h2 : spotF f hg ce = g) (h0 : 0 ≤ g.toInt) (e1 : f (270 + 3 * g.toInt.toNat + 1) = so) (e2 : f (270 + 3 * g.toInt.toNat + 2) = la) (e3 : du.toInt = 0) (e5 : f 4 = le) : meetF f w hg ce wy ho br th pts = turnF w (6 + g) so la du False le ce wy ho br th pts := by
  have ed : du = 0 := Int32.toInt_inj.mp (e3.trans (by decide))
  rw [met_s h h2 h0, e1, e2, e5, ed]
/-- where a glass is, it is all the same what is hung -/
theorem gl_yes {n : Int32} {t : Nat → Int32} {gb : Int64} {f : Nat → Int32} (h : QG n t gb f) {ce : Int32} (hc : 0 ≤ ce.toInt ∧ ce.toInt ≤ 63) (q : onB gb ce.toInt = true) : glassF f ce ≠ -1 := by
  obtain ⟨hb, e0, ht, hi, ho⟩ := h
  obtain ⟨r, a, b, e⟩ := hi ce.toInt hc.1 hc.2 q
  have z0 : (0 : Int32).toInt = 0 := by decide
  have e : tget t n.toInt 5 r (0 : Int32).toInt = ce := Int32.toInt_inj.mp e
  have key : ∀ m g : Nat, (∃ k : Nat, g ≤ k ∧ k < g + m ∧ f (80 + 5 * k) = ce) → g + m ≤ 6 → 0 ≤ (glaF f ce m g).toInt := by
    intro m
    induction m with
    | zero => rintro g ⟨k, x, y, _⟩; omega
    | succ m ih =>
      rintro g ⟨k, x, y, w⟩ gm
      show 0 ≤ (cif _ _ _ : Int32).toInt
      by_cases z : f (80 + 5 * g) = ce
      · rw [cif_t z]
        have z9 : ∀ j : Nat, j < 7 → 0 ≤ (Int32.ofNat j).toInt := by decide
        exact z9 g (by omega)
      · rw [cif_f z]
        exact ih (g + 1) ⟨k, by rcases Nat.lt_or_ge g k with u | u; exact u; exact absurd w (by rw [show k = g by omega]; exact z), by omega, w⟩ (by omega)
  have y := ht r.toNat 0 (by omega) (by omega)
  have p := key (f 0).toInt.toNat 0 ⟨r.toNat, by omega, by rw [e0]; omega, by rw [show 80 + 5 * r.toNat = 80 + 5 * r.toNat + 0 by omega, y, Int.toNat_of_nonneg a, ← e, z0]; rfl⟩ (by rw [e0]; omega)
  intro z
  unfold glassF at z
  rw [z] at p
  exact absurd p (by decide)
theorem met_hg {f : Nat → Int32} {w : LWF} {hg hg2 ce wy ho br th pts : Int32} (h : glassF f ce ≠ -1) : meetF f w hg ce wy ho br th pts = meetF f w hg2 ce wy ho br th pts := by
  unfold meetF; rw [cif_t h, cif_t h]
theorem g_or2 {a b : Int64} {x : Int} (h : onB (a ||| b) x = true) : onB a x = true ∨ (onB a x = false ∧ onB b x = true) := by
  rcases onB_orE h with y | y
  · exact Or.inl y
  · by_cases z : onB a x = true
    · exact Or.inl z
    · exact Or.inr ⟨by simpa using z, y⟩
theorem gl_nof {n : Int32} {t : Nat → Int32} {gb : Int64} {f : Nat → Int32} (h : QG n t gb f) {ce r : Int32} (q : onB gb ce.toInt = false) (h0 : 0 ≤ r.toInt ∧ r.toInt < n.toInt) (h1 : tget t n.toInt 5 r.toInt (0 : Int32).toInt = ce) : False := by
  have z0 : (0 : Int32).toInt = 0 := by decide
  have y := h.2.2.2.2 r.toInt h0.1 h0.2
  rw [z0] at h1
  rw [h1, q] at y
  exact absurd y (by decide)
/-! wishes -/
def mkE (S : LST) (n : Nat) (p : Int32) : Prop := ∃ j : Nat, j < n ∧ lkpt S j = p
def ptsE (pt : Nat → Int32) (n p : Int32) : Prop := ∃ j : Nat, (j : Int) < n.toInt ∧ pt j = p
def wishQ (f : Nat → Int32) (w : LWF) (hg : Int32) (i : Nat) : Prop := cif (mkE (lkE f w hg (f (300 + 6 * i)) (f (300 + 6 * i + 1)) (f (300 + 6 * i + 2))) (lkn (lkE f w hg (f (300 + 6 * i)) (f (300 + 6 * i + 1)) (f (300 + 6 * i + 2)))) (64 * f (300 + 6 * i + 4) + f (300 + 6 * i + 3))) (1 : Int) 0 = (f (300 + 6 * i + 5)).toInt
noncomputable def lackB (f : Nat → Int32) (w : LWF) (hg : Int32) : Nat → Int32
  | 0 => 0
  | n + 1 => cif (wishQ f w hg n) (lackB f w hg n) (lackB f w hg n ||| ((1 : Int32) <<< (Int32.ofNat n &&& 31)))
noncomputable def lackF (f : Nat → Int32) (w : LWF) (hg : Int32) : Int32 := lackB f w hg (f 8).toInt.toNat
noncomputable def alacks (f : Nat → Int32) (w : LWF) (s : Int32) : Int32 := cif (0 ≤ s.toInt ∧ s.toInt < ((1 : Int32) <<< (f 7 &&& 31)).toInt) (lackF f w s) (-1)
theorem mk_Rh {f k : Nat → Int32} {w : LWF} {hg c y h se n br th p : Int32} (R : LKR f w hg c y h se n br th k) : ptsE k n p ↔ mkE (lkE f w hg c y h) (lkn (lkE f w hg c y h)) p := by
  obtain ⟨_, r2, _, _, r5⟩ := R
  constructor
  · rintro ⟨j, a, e⟩; exact ⟨j, by omega, by rw [← r5 j a]; exact e⟩
  · rintro ⟨j, a, e⟩; exact ⟨j, by omega, by rw [r5 j (by omega)]; exact e⟩
theorem pe_0 {k : Nat → Int32} {n p : Int32} (h : n.toInt = 0) : ¬ ptsE k n p := fun ⟨j, a, _⟩ => by omega
theorem pe_n {k : Nat → Int32} {n n' p : Int32} (H : ¬ ptsE k n p) (h0 : 0 ≤ n.toInt) (hn : n'.toInt = n.toInt + 1) (q : (k n.toNatClampNeg).toInt ≠ p.toInt) : ¬ ptsE k n' p := by
  have c := g5_clamp n
  rintro ⟨j, a, e⟩
  by_cases z : j = n.toNatClampNeg
  · subst z; exact q (congrArg Int32.toInt e)
  · exact H ⟨j, by omega, e⟩
theorem pe_y {k : Nat → Int32} {n i p : Int32} (h0 : 0 ≤ i.toInt) (hn : i.toInt < n.toInt) (q : (k i.toNatClampNeg).toInt = p.toInt) : ptsE k n p :=
  ⟨i.toNatClampNeg, by have c := g5_clamp i; omega, Int32.toInt_inj.mp q⟩
theorem pe_e {k : Nat → Int32} {n i p : Int32} (H : ¬ ptsE k i p) (h : n.toInt ≤ i.toInt) : ¬ ptsE k n p := fun ⟨j, a, e⟩ => H ⟨j, by omega, e⟩
def PED (d : Int) (k : Nat → Int32) (n p : Int32) : Prop := (d = 1 ∧ ptsE k n p) ∨ (d = 0 ∧ ¬ ptsE k n p)
theorem ped_0 {d : Int} {k : Nat → Int32} {n p : Int32} (h : n.toInt = 0) (hd : d = 0) : PED d k n p := Or.inr ⟨hd, pe_0 h⟩
theorem ped_S {d d' : Int} {k : Nat → Int32} {n n' p x : Int32} (H : PED d k n p) (h0 : 0 ≤ n.toInt) (hn : n'.toInt = n.toInt + 1) (ex : x = p) (q : ((k n.toNatClampNeg).toInt = x.toInt ∧ d' = 1) ∨ ((k n.toNatClampNeg).toInt ≠ x.toInt ∧ d' = d)) : PED d' k n' p := by
  subst ex
  rcases q with ⟨q1, q2⟩ | ⟨q1, q2⟩
  · exact Or.inl ⟨q2, pe_y h0 (by omega) q1⟩
  · rcases H with ⟨a, ⟨j, b, c⟩⟩ | ⟨a, b⟩
    · exact Or.inl ⟨by omega, ⟨j, by omega, c⟩⟩
    · exact Or.inr ⟨by omega, pe_n b h0 hn q1⟩
theorem ped_e {d : Int} {k : Nat → Int32} {n m p : Int32} (H : PED d k n p) (h : n.toInt = m.toInt) : PED d k m p := by
  unfold PED ptsE at H ⊢; rw [← h]; exact H
section WIS
variable {f k : Nat → Int32} {w : LWF} {hg c y h a t i se n br th x x' b b' p : Int32}
theorem lck_0 (h0 : x.toInt = 0) (e : b = 0) : b = lackB f w hg x.toInt.toNat := by rw [h0]; exact e
/-- one wish more; d: it is there -/
theorem lck_S {d : Int} (B : b = lackB f w hg x.toInt.toNat) (h0 : 0 ≤ x.toInt) (hx : x'.toInt = x.toInt + 1) (e0 : f (300 + 6 * x.toInt.toNat) = c) (e1 : f (300 + 6 * x.toInt.toNat + 1) = y) (e2 : f (300 + 6 * x.toInt.toNat + 2) = h) (e3 : f (300 + 6 * x.toInt.toNat + 3) = a) (e4 : f (300 + 6 * x.toInt.toNat + 4) = t) (e5 : f (300 + 6 * x.toInt.toNat + 5) = i) (R : LKR f w hg c y h se n br th k) (P : PED d k n (64 * t + a)) (q : (d = i.toInt ∧ b' = b) ∨ (d ≠ i.toInt ∧ b' = (b ||| ((1 : Int32) <<< (x &&& 31))))) : b' = lackB f w hg x'.toInt.toNat := by
  have ex : Int32.ofNat x.toInt.toNat = x := nat_i (by omega)
  rw [show x'.toInt.toNat = x.toInt.toNat + 1 by omega]
  show _ = cif _ _ _
  have W : wishQ f w hg x.toInt.toNat ↔ d = i.toInt := by
    unfold wishQ
    rw [e0, e1, e2, e3, e4, e5]
    rcases P with ⟨p1, p2⟩ | ⟨p1, p2⟩
    · rw [cif_t ((mk_Rh R).mp p2), p1]
    · rw [cif_f (fun z => p2 ((mk_Rh R).mpr z)), p1]
  rw [ex, ← B]
  rcases q with ⟨q1, q2⟩ | ⟨q1, q2⟩
  · rw [cif_t (W.mpr q1)]; exact q2
  · rw [cif_f (fun z => q1 (W.mp z))]; exact q2
theorem lck_e (B : b = lackB f w hg x.toInt.toNat) (h : x.toInt = (f 8).toInt) : b = lackF f w hg := by unfold lackF; rw [← h]; exact B
theorem lac_y (q : 0 ≤ x.toInt ∧ x.toInt < ((1 : Int32) <<< (f 7 &&& 31)).toInt) (e : b = lackF f w x) : b = alacks f w x := by unfold alacks; rw [cif_t q]; exact e
theorem lac_n (q : ¬ (0 ≤ x.toInt ∧ x.toInt < ((1 : Int32) <<< (f 7 &&& 31)).toInt)) : (-1 : Int32) = alacks f w x := by unfold alacks; rw [cif_f q]
theorem wi_col {r z o : Int32} {u : Nat → Int32} {m : Nat} (H : QW o u f) (h0 : 0 ≤ r.toInt ∧ r.toInt < o.toInt) (e : z = tget u o.toInt 6 r.toInt p.toInt) (hk : p.toInt = (m : Int)) (k6 : m < 6) : f (300 + 6 * r.toInt.toNat + m) = z := by
  have v := H.2.2.1 r.toInt.toNat m (by omega) k6
  rw [v, e, hk, show ((r.toInt.toNat : Nat) : Int) = r.toInt by omega]
end WIS
/-! one who walks -/
section WKS
variable {f : Nat → Int32} {w : LWF} {b c h x x' y y' o r : Int32} {k : Nat} {d : Int}
end WKS
/-! boards of cells -/
section BTS
variable {x s wa : Int64} {f : Nat → Int32} {w : LWF} {le st b c h hx hx' i i' : Int32} {k : Nat}
end BTS
/-! one who is nowhere is seen by nobody -/
section EVS
variable {f : Nat → Int32} {w : LWF} {b h x x' z : Int32}
end EVS
section TRS
variable {tr tr' : Nat → Int32} {R R' : Nat → Int → Prop} {f : Nat → Int32} {w : LWF} {b p : Int32} {c i : Int} {h n k : Nat}
end TRS
section ECS
variable {f : Nat → Int32} {w : LWF} {b : Int32} {c e e' i i' : Int} {h n : Nat}
end ECS
/-! the first of a walker's rows -/
noncomputable def leastF (P : Int → Prop) : Nat → Nat → Int
  | 0, _ => -1
  | m + 1, d => cif (P (d : Int)) (d : Int) (leastF P m (d + 1))
noncomputable def least (P : Int → Prop) : Int := leastF P 64 0
section RCS
variable {f : Nat → Int32} {w : LWF} {b : Int32} {c : Int} {h last : Nat}
end RCS
section LWS5
variable {c : Int} {x : Int64} {i i' z : Int32}
end LWS5
section GLS5
variable {g g' : Nat → Int64} {f : Nat → Int32} {w : LWF} {b c : Int32} {h last : Nat} {wa s : Int64} {le st : Int32}
end GLS5
/-! the model's leads -/
section RBS
variable {tr tr' : Nat → Int32} {R : Nat → Int → Prop} {f : Nat → Int32} {w : LWF} {b p v : Int32} {c e n i : Int} {h k : Nat}
end RBS
theorem dgX6_has_0 : ∀ r ∈ ([(0, (.iload_n 1, 1)), (1, (.ifCond .lt 15, 3)), (4, (.iload_n 1, 1)), (5, (.aload_n 0, 1)), (6, (.getfield 9, 3)), (9, (.if_icmp .ge 7, 3)), (12, (.iconst 1, 1)), (13, (.goto 4, 3)), (16, (.iconst 0, 1)), (17, (.ireturn, 1))] : List (Nat × (Instr × Nat))), decode cX6_has r.1 = .ok r.2 := by decide +kernel
theorem dX6_has_0 : decode cX6_has 0 = .ok (.iload_n 1, 1) := dgX6_has_0 (0, (.iload_n 1, 1)) (List.mem_of_getElem? (i := 0) rfl)
theorem dX6_has_1 : decode cX6_has 1 = .ok (.ifCond .lt 15, 3) := dgX6_has_0 (1, (.ifCond .lt 15, 3)) (List.mem_of_getElem? (i := 1) rfl)
theorem dX6_has_4 : decode cX6_has 4 = .ok (.iload_n 1, 1) := dgX6_has_0 (4, (.iload_n 1, 1)) (List.mem_of_getElem? (i := 2) rfl)
theorem dX6_has_5 : decode cX6_has 5 = .ok (.aload_n 0, 1) := dgX6_has_0 (5, (.aload_n 0, 1)) (List.mem_of_getElem? (i := 3) rfl)
theorem dX6_has_6 : decode cX6_has 6 = .ok (.getfield 9, 3) := dgX6_has_0 (6, (.getfield 9, 3)) (List.mem_of_getElem? (i := 4) rfl)
theorem dX6_has_9 : decode cX6_has 9 = .ok (.if_icmp .ge 7, 3) := dgX6_has_0 (9, (.if_icmp .ge 7, 3)) (List.mem_of_getElem? (i := 5) rfl)
theorem dX6_has_12 : decode cX6_has 12 = .ok (.iconst 1, 1) := dgX6_has_0 (12, (.iconst 1, 1)) (List.mem_of_getElem? (i := 6) rfl)
theorem dX6_has_13 : decode cX6_has 13 = .ok (.goto 4, 3) := dgX6_has_0 (13, (.goto 4, 3)) (List.mem_of_getElem? (i := 7) rfl)
theorem dX6_has_16 : decode cX6_has 16 = .ok (.iconst 0, 1) := dgX6_has_0 (16, (.iconst 0, 1)) (List.mem_of_getElem? (i := 8) rfl)
theorem dX6_has_17 : decode cX6_has 17 = .ok (.ireturn, 1) := dgX6_has_0 (17, (.ireturn, 1)) (List.mem_of_getElem? (i := 9) rfl)
theorem inG_X6 : ∀ w ∈ wsX60, w ∈ tblG := tgs [143, 145, 147, 149] (by decide +kernel) (by decide +kernel)
theorem fl_X6_9 : Cond.fieldLink RX6 9 "LateGlass$Table" "rows" "I" ∈ tblG := tg 136 (by decide +kernel) (by decide +kernel)
set_option maxHeartbeats 4000000 in
set_option maxRecDepth 100000 in
theorem t_has_G (l : Launch) (G : g5_G) (a_t a_n : Nat) (sz : Nat) (e_n : Int32) (p_r : Int32) (h_e_n : 0 ≤ e_n.toInt ∧ e_n.toInt ≤ 6) : Met l yX6_has (wsG yX6_has cX6_has 2 (some .boolean)) ({ frames := 0, cells := 0, slots := 0, locals := 0 }) (va_Pc [.ref a_t, .int p_r] (g5_P G [(a_t, (oc6 6 5 a_n e_n))] sz)) (va_Qi (fun (r : Int32) (u : va_W) => ((0 ≤ p_r.toInt ∧ p_r.toInt < e_n.toInt) ∧ (r = 1) ∧ (u = [(a_t, (oc6 6 5 a_n e_n))])) ∨ ((p_r.toInt < 0 ∨ e_n.toInt ≤ p_r.toInt) ∧ (r = 0) ∧ (u = [(a_t, (oc6 6 5 a_n e_n))]))) (g5_B G (va_A [(a_t, (oc6 6 5 a_n e_n))] sz)) (va_A [(a_t, (oc6 6 5 a_n e_n))] sz)) 0 0 (va_A [(a_t, (oc6 6 5 a_n e_n))] sz) := by
  refine Met.ofW (cc := cX6_has) (maxL := 2) (ret := (some .boolean)) (by decide) rfl ?_
  intro p e s m args below meth c s₁ B hml hv
  obtain ⟨rfl, hsz, hP, hK, hD0, hN, hT⟩ := hv
  have hx := B.exec
  have hb := B.bytes
  have hr := B.returns
  have hts : ∀ w ∈ tblG, w.before _ s = true := fun w h => atoms_spec (ws := (wsG yX6_has cX6_has 2 (some .boolean))) B.pre w (List.mem_cons_of_mem _ h)
  have hown : s.vm.findClass RX6 = some m.cls := findClass_of_methodNamed B.named
  have hlocks := B.notSynchronized
  subst hsz
  have hD := hD0.self (sz := s.heap.size)
  generalize hAe : va_A [(a_t, (oc6 6 5 a_n e_n))] s.heap.size = A at hD hT ⊢
  have hA : ∀ q : Nat, s.heap.size ≤ q → A q := fun q h => by rw [← hAe]; exact Or.inr h
  have hS : va_S A s.heap s.heap [] := va_S.rf
  have hP : va_P G.1 vwCl [(a_t, (oc6 6 5 a_n e_n))] s.heap := hP
  have hl := lv_entry ([.ref a_t, .int p_r]) (n := 2) (Nat.le_of_ble_eq_true rfl)
  rw [lg_entry_eq]
  generalize (lg_sl ([.ref a_t, .int p_r]) ++ List.replicate (2 - (lg_sl ([.ref a_t, .int p_r])).length) Slot.unset).toArray = ls at hl ⊢
  have hl : lv_has ls 2 [(0, .ref a_t), (1, .int p_r)] := hl
  refine lv_iload_n hx hb dX6_has_0 rfl (lv_at hl 1 rfl) ?_
  refine lv_if_lt (tgt := 16) hx hb dX6_has_1 (by decide) (fun c_1 => ?_) (fun c_1 => ?_)
  ·
    have i_1 : p_r.toInt < 0 := by have z := g5_lt (a := p_r.toInt) (b := 0) (by rfl) (by decide) c_1; omega
    refine lv_iconst (v := 0) hx hb dX6_has_16 (by decide) ?_
    exact W.zret (v := 0) hx hb hr rfl (fun t ht hW => ⟨⟨0, [(a_t, (oc6 6 5 a_n e_n))], rfl, Or.inr (⟨by omega, rfl, rfl⟩), by rw [ht]; exact hP.sub [0] rfl, hD.sub [0] (by decide) rfl⟩, hS.F ht⟩) hS.2.2 dX6_has_17
  ·
    have i_1 : p_r.toInt ≥ 0 := by have z := g5_ltN (a := p_r.toInt) (b := 0) (by rfl) (by decide) c_1; omega
    refine lv_iload_n hx hb dX6_has_4 rfl (lv_at hl 1 rfl) ?_
    refine lv_aload_n hx hb dX6_has_5 rfl (lv_at hl 0 rfl) ?_
    refine va_get (D := G.1) (ci := 6) (v := .int e_n) (C := RX6) (T := TX6) (N := 4) hx hb hts inG_X6 hown hK hP 0 rfl rfl 3 (by decide) (hts _ fl_X6_9) (fun _ h9 => h9) rfl dX6_has_6 ?_
    refine lv_icmp_ge (tgt := 16) hx hb dX6_has_9 (by decide) (fun c_2 => ?_) (fun c_2 => ?_)
    ·
      have i_2 : p_r.toInt ≥ e_n.toInt := by have z := g5_ge (a := p_r.toInt) (b := e_n.toInt) (by rfl) (by rfl) c_2; omega
      refine lv_iconst (v := 0) hx hb dX6_has_16 (by decide) ?_
      exact W.zret (v := 0) hx hb hr rfl (fun t ht hW => ⟨⟨0, [(a_t, (oc6 6 5 a_n e_n))], rfl, Or.inr (⟨by omega, rfl, rfl⟩), by rw [ht]; exact hP.sub [0] rfl, hD.sub [0] (by decide) rfl⟩, hS.F ht⟩) hS.2.2 dX6_has_17
    ·
      have i_2 : p_r.toInt < e_n.toInt := by have z := g5_geN (a := p_r.toInt) (b := e_n.toInt) (by rfl) (by rfl) c_2; omega
      refine lv_iconst (v := 1) hx hb dX6_has_12 (by decide) ?_
      refine lv_goto (tgt := 17) hx hb dX6_has_13 (by decide) ?_
      exact W.zret (v := 1) hx hb hr rfl (fun t ht hW => ⟨⟨1, [(a_t, (oc6 6 5 a_n e_n))], rfl, Or.inl (⟨by omega, rfl, rfl⟩), by rw [ht]; exact hP.sub [0] rfl, hD.sub [0] (by decide) rfl⟩, hS.F ht⟩) hS.2.2 dX6_has_17
theorem dgX6_isFull_0 : ∀ r ∈ ([(0, (.aload_n 0, 1)), (1, (.getfield 9, 3)), (4, (.aload_n 0, 1)), (5, (.getfield 15, 3)), (8, (.if_icmp .lt 7, 3)), (11, (.iconst 1, 1)), (12, (.goto 4, 3)), (15, (.iconst 0, 1)), (16, (.ireturn, 1))] : List (Nat × (Instr × Nat))), decode cX6_isFull r.1 = .ok r.2 := by decide +kernel
theorem dX6_isFull_0 : decode cX6_isFull 0 = .ok (.aload_n 0, 1) := dgX6_isFull_0 (0, (.aload_n 0, 1)) (List.mem_of_getElem? (i := 0) rfl)
theorem dX6_isFull_1 : decode cX6_isFull 1 = .ok (.getfield 9, 3) := dgX6_isFull_0 (1, (.getfield 9, 3)) (List.mem_of_getElem? (i := 1) rfl)
theorem dX6_isFull_4 : decode cX6_isFull 4 = .ok (.aload_n 0, 1) := dgX6_isFull_0 (4, (.aload_n 0, 1)) (List.mem_of_getElem? (i := 2) rfl)
theorem dX6_isFull_5 : decode cX6_isFull 5 = .ok (.getfield 15, 3) := dgX6_isFull_0 (5, (.getfield 15, 3)) (List.mem_of_getElem? (i := 3) rfl)
theorem dX6_isFull_8 : decode cX6_isFull 8 = .ok (.if_icmp .lt 7, 3) := dgX6_isFull_0 (8, (.if_icmp .lt 7, 3)) (List.mem_of_getElem? (i := 4) rfl)
theorem dX6_isFull_11 : decode cX6_isFull 11 = .ok (.iconst 1, 1) := dgX6_isFull_0 (11, (.iconst 1, 1)) (List.mem_of_getElem? (i := 5) rfl)
theorem dX6_isFull_12 : decode cX6_isFull 12 = .ok (.goto 4, 3) := dgX6_isFull_0 (12, (.goto 4, 3)) (List.mem_of_getElem? (i := 6) rfl)
theorem dX6_isFull_15 : decode cX6_isFull 15 = .ok (.iconst 0, 1) := dgX6_isFull_0 (15, (.iconst 0, 1)) (List.mem_of_getElem? (i := 7) rfl)
theorem dX6_isFull_16 : decode cX6_isFull 16 = .ok (.ireturn, 1) := dgX6_isFull_0 (16, (.ireturn, 1)) (List.mem_of_getElem? (i := 8) rfl)
theorem fl_X6_15 : Cond.fieldLink RX6 15 "LateGlass$Table" "most" "I" ∈ tblG := tg 133 (by decide +kernel) (by decide +kernel)
set_option maxHeartbeats 4000000 in
set_option maxRecDepth 100000 in
theorem t_isFull_G (l : Launch) (G : g5_G) (a_t a_n : Nat) (sz : Nat) (e_n : Int32) (h_e_n : 0 ≤ e_n.toInt ∧ e_n.toInt ≤ 6) : Met l yX6_isFull (wsG yX6_isFull cX6_isFull 1 (some .boolean)) ({ frames := 0, cells := 0, slots := 0, locals := 0 }) (va_Pc [.ref a_t] (g5_P G [(a_t, (oc6 6 5 a_n e_n))] sz)) (va_Qi (fun (r : Int32) (u : va_W) => ((e_n.toInt = 6) ∧ (r = 1) ∧ (u = [(a_t, (oc6 6 5 a_n e_n))])) ∨ ((e_n.toInt < 6) ∧ (r = 0) ∧ (u = [(a_t, (oc6 6 5 a_n e_n))]))) (g5_B G (va_A [(a_t, (oc6 6 5 a_n e_n))] sz)) (va_A [(a_t, (oc6 6 5 a_n e_n))] sz)) 0 0 (va_A [(a_t, (oc6 6 5 a_n e_n))] sz) := by
  refine Met.ofW (cc := cX6_isFull) (maxL := 1) (ret := (some .boolean)) (by decide) rfl ?_
  intro p e s m args below meth c s₁ B hml hv
  obtain ⟨rfl, hsz, hP, hK, hD0, hN, hT⟩ := hv
  have hx := B.exec
  have hb := B.bytes
  have hr := B.returns
  have hts : ∀ w ∈ tblG, w.before _ s = true := fun w h => atoms_spec (ws := (wsG yX6_isFull cX6_isFull 1 (some .boolean))) B.pre w (List.mem_cons_of_mem _ h)
  have hown : s.vm.findClass RX6 = some m.cls := findClass_of_methodNamed B.named
  have hlocks := B.notSynchronized
  subst hsz
  have hD := hD0.self (sz := s.heap.size)
  generalize hAe : va_A [(a_t, (oc6 6 5 a_n e_n))] s.heap.size = A at hD hT ⊢
  have hA : ∀ q : Nat, s.heap.size ≤ q → A q := fun q h => by rw [← hAe]; exact Or.inr h
  have hS : va_S A s.heap s.heap [] := va_S.rf
  have hP : va_P G.1 vwCl [(a_t, (oc6 6 5 a_n e_n))] s.heap := hP
  have hl := lv_entry ([.ref a_t]) (n := 1) (Nat.le_of_ble_eq_true rfl)
  rw [lg_entry_eq]
  generalize (lg_sl ([.ref a_t]) ++ List.replicate (1 - (lg_sl ([.ref a_t])).length) Slot.unset).toArray = ls at hl ⊢
  have hl : lv_has ls 1 [(0, .ref a_t)] := hl
  refine lv_aload_n hx hb dX6_isFull_0 rfl (lv_at hl 0 rfl) ?_
  refine va_get (D := G.1) (ci := 6) (v := .int e_n) (C := RX6) (T := TX6) (N := 4) hx hb hts inG_X6 hown hK hP 0 rfl rfl 3 (by decide) (hts _ fl_X6_9) (fun _ h9 => h9) rfl dX6_isFull_1 ?_
  refine lv_aload_n hx hb dX6_isFull_4 rfl (lv_at hl 0 rfl) ?_
  refine va_get (D := G.1) (ci := 6) (v := .int 6) (C := RX6) (T := TX6) (N := 4) hx hb hts inG_X6 hown hK hP 0 rfl rfl 0 (by decide) (hts _ fl_X6_15) (fun _ h9 => h9) rfl dX6_isFull_5 ?_
  refine W.eq (g2 := F0 m 8 ls [.int 6, .int e_n]) rfl ?_
  refine lv_icmp_lt (tgt := 15) hx hb dX6_isFull_8 (by decide) (fun c_1 => ?_) (fun c_1 => ?_)
  ·
    have i_1 : e_n.toInt < 6 := by have z := g5_lt (a := e_n.toInt) (b := 6) (by rfl) (by decide) c_1; omega
    refine lv_iconst (v := 0) hx hb dX6_isFull_15 (by decide) ?_
    exact W.zret (v := 0) hx hb hr rfl (fun t ht hW => ⟨⟨0, [(a_t, (oc6 6 5 a_n e_n))], rfl, Or.inr (⟨by omega, rfl, rfl⟩), by rw [ht]; exact hP.sub [0] rfl, hD.sub [0] (by decide) rfl⟩, hS.F ht⟩) hS.2.2 dX6_isFull_16
  ·
    have i_1 : e_n.toInt ≥ 6 := by have z := g5_ltN (a := e_n.toInt) (b := 6) (by rfl) (by decide) c_1; omega
    refine lv_iconst (v := 1) hx hb dX6_isFull_11 (by decide) ?_
    refine lv_goto (tgt := 16) hx hb dX6_isFull_12 (by decide) ?_
    exact W.zret (v := 1) hx hb hr rfl (fun t ht hW => ⟨⟨1, [(a_t, (oc6 6 5 a_n e_n))], rfl, Or.inl (⟨by omega, rfl, rfl⟩), by rw [ht]; exact hP.sub [0] rfl, hD.sub [0] (by decide) rfl⟩, hS.F ht⟩) hS.2.2 dX6_isFull_16
theorem dgX6_get_0 : ∀ r ∈ ([(0, (.iload_n 1, 1)), (1, (.ifCond .lt 23, 3)), (4, (.iload_n 1, 1)), (5, (.aload_n 0, 1)), (6, (.getfield 9, 3)), (9, (.if_icmp .ge 15, 3)), (12, (.iload_n 2, 1)), (13, (.ifCond .lt 11, 3)), (16, (.iload_n 2, 1)), (17, (.aload_n 0, 1)), (18, (.getfield 18, 3)), (21, (.if_icmp .lt 5, 3)), (24, (.iconst (-1), 1)), (25, (.ireturn, 1)), (26, (.aload_n 0, 1)), (27, (.getfield 21, 3)), (30, (.iload_n 1, 1)), (31, (.aload_n 0, 1)), (32, (.getfield 18, 3)), (35, (.imul, 1)), (36, (.iload_n 2, 1)), (37, (.iadd, 1)), (38, (.iaload, 1)), (39, (.ireturn, 1))] : List (Nat × (Instr × Nat))), decode cX6_get r.1 = .ok r.2 := by decide +kernel
theorem dX6_get_0 : decode cX6_get 0 = .ok (.iload_n 1, 1) := dgX6_get_0 (0, (.iload_n 1, 1)) (List.mem_of_getElem? (i := 0) rfl)
theorem dX6_get_1 : decode cX6_get 1 = .ok (.ifCond .lt 23, 3) := dgX6_get_0 (1, (.ifCond .lt 23, 3)) (List.mem_of_getElem? (i := 1) rfl)
theorem dX6_get_4 : decode cX6_get 4 = .ok (.iload_n 1, 1) := dgX6_get_0 (4, (.iload_n 1, 1)) (List.mem_of_getElem? (i := 2) rfl)
theorem dX6_get_5 : decode cX6_get 5 = .ok (.aload_n 0, 1) := dgX6_get_0 (5, (.aload_n 0, 1)) (List.mem_of_getElem? (i := 3) rfl)
theorem dX6_get_6 : decode cX6_get 6 = .ok (.getfield 9, 3) := dgX6_get_0 (6, (.getfield 9, 3)) (List.mem_of_getElem? (i := 4) rfl)
theorem dX6_get_9 : decode cX6_get 9 = .ok (.if_icmp .ge 15, 3) := dgX6_get_0 (9, (.if_icmp .ge 15, 3)) (List.mem_of_getElem? (i := 5) rfl)
theorem dX6_get_12 : decode cX6_get 12 = .ok (.iload_n 2, 1) := dgX6_get_0 (12, (.iload_n 2, 1)) (List.mem_of_getElem? (i := 6) rfl)
theorem dX6_get_13 : decode cX6_get 13 = .ok (.ifCond .lt 11, 3) := dgX6_get_0 (13, (.ifCond .lt 11, 3)) (List.mem_of_getElem? (i := 7) rfl)
theorem dX6_get_16 : decode cX6_get 16 = .ok (.iload_n 2, 1) := dgX6_get_0 (16, (.iload_n 2, 1)) (List.mem_of_getElem? (i := 8) rfl)
theorem dX6_get_17 : decode cX6_get 17 = .ok (.aload_n 0, 1) := dgX6_get_0 (17, (.aload_n 0, 1)) (List.mem_of_getElem? (i := 9) rfl)
theorem dX6_get_18 : decode cX6_get 18 = .ok (.getfield 18, 3) := dgX6_get_0 (18, (.getfield 18, 3)) (List.mem_of_getElem? (i := 10) rfl)
theorem dX6_get_21 : decode cX6_get 21 = .ok (.if_icmp .lt 5, 3) := dgX6_get_0 (21, (.if_icmp .lt 5, 3)) (List.mem_of_getElem? (i := 11) rfl)
theorem dX6_get_24 : decode cX6_get 24 = .ok (.iconst (-1), 1) := dgX6_get_0 (24, (.iconst (-1), 1)) (List.mem_of_getElem? (i := 12) rfl)
theorem dX6_get_25 : decode cX6_get 25 = .ok (.ireturn, 1) := dgX6_get_0 (25, (.ireturn, 1)) (List.mem_of_getElem? (i := 13) rfl)
theorem dX6_get_26 : decode cX6_get 26 = .ok (.aload_n 0, 1) := dgX6_get_0 (26, (.aload_n 0, 1)) (List.mem_of_getElem? (i := 14) rfl)
theorem dX6_get_27 : decode cX6_get 27 = .ok (.getfield 21, 3) := dgX6_get_0 (27, (.getfield 21, 3)) (List.mem_of_getElem? (i := 15) rfl)
theorem dX6_get_30 : decode cX6_get 30 = .ok (.iload_n 1, 1) := dgX6_get_0 (30, (.iload_n 1, 1)) (List.mem_of_getElem? (i := 16) rfl)
theorem dX6_get_31 : decode cX6_get 31 = .ok (.aload_n 0, 1) := dgX6_get_0 (31, (.aload_n 0, 1)) (List.mem_of_getElem? (i := 17) rfl)
theorem dX6_get_32 : decode cX6_get 32 = .ok (.getfield 18, 3) := dgX6_get_0 (32, (.getfield 18, 3)) (List.mem_of_getElem? (i := 18) rfl)
theorem dX6_get_35 : decode cX6_get 35 = .ok (.imul, 1) := dgX6_get_0 (35, (.imul, 1)) (List.mem_of_getElem? (i := 19) rfl)
theorem dX6_get_36 : decode cX6_get 36 = .ok (.iload_n 2, 1) := dgX6_get_0 (36, (.iload_n 2, 1)) (List.mem_of_getElem? (i := 20) rfl)
theorem dX6_get_37 : decode cX6_get 37 = .ok (.iadd, 1) := dgX6_get_0 (37, (.iadd, 1)) (List.mem_of_getElem? (i := 21) rfl)
theorem dX6_get_38 : decode cX6_get 38 = .ok (.iaload, 1) := dgX6_get_0 (38, (.iaload, 1)) (List.mem_of_getElem? (i := 22) rfl)
theorem dX6_get_39 : decode cX6_get 39 = .ok (.ireturn, 1) := dgX6_get_0 (39, (.ireturn, 1)) (List.mem_of_getElem? (i := 23) rfl)
theorem fl_X6_18 : Cond.fieldLink RX6 18 "LateGlass$Table" "width" "I" ∈ tblG := tg 134 (by decide +kernel) (by decide +kernel)
theorem fl_X6_21 : Cond.fieldLink RX6 21 "LateGlass$Table" "numbers" "[I" ∈ tblG := tg 135 (by decide +kernel) (by decide +kernel)
set_option maxHeartbeats 4000000 in
set_option maxRecDepth 100000 in
theorem t_get_G (l : Launch) (G : g5_G) (a_t a_n : Nat) (sz : Nat) (e_n : Int32) (p_r : Int32) (p_c : Int32) (f_n : Nat → Int32) (h_e_n : 0 ≤ e_n.toInt ∧ e_n.toInt ≤ 6) : Met l yX6_get (wsG yX6_get cX6_get 3 (some .int)) ({ frames := 0, cells := 0, slots := 0, locals := 0 }) (va_Pc [.ref a_t, .int p_r, .int p_c] (g5_P G [(a_t, (oc6 6 5 a_n e_n)), (a_n, (arI G 30 f_n))] sz)) (va_Qi (fun (r : Int32) (u : va_W) => (∃ (o_r : Int32), (o_r = tget f_n e_n.toInt 5 p_r.toInt p_c.toInt) ∧ (r = o_r) ∧ (u = [(a_t, (oc6 6 5 a_n e_n)), (a_n, (arI G 30 f_n))]))) (g5_B G (va_A [(a_t, (oc6 6 5 a_n e_n)), (a_n, (arI G 30 f_n))] sz)) (va_A [(a_t, (oc6 6 5 a_n e_n)), (a_n, (arI G 30 f_n))] sz)) 0 0 (va_A [(a_t, (oc6 6 5 a_n e_n)), (a_n, (arI G 30 f_n))] sz) := by
  refine Met.ofW (cc := cX6_get) (maxL := 3) (ret := (some .int)) (by decide) rfl ?_
  intro p e s m args below meth c s₁ B hml hv
  obtain ⟨rfl, hsz, hP, hK, hD0, hN, hT⟩ := hv
  have hx := B.exec
  have hb := B.bytes
  have hr := B.returns
  have hts : ∀ w ∈ tblG, w.before _ s = true := fun w h => atoms_spec (ws := (wsG yX6_get cX6_get 3 (some .int))) B.pre w (List.mem_cons_of_mem _ h)
  have hown : s.vm.findClass RX6 = some m.cls := findClass_of_methodNamed B.named
  have hlocks := B.notSynchronized
  subst hsz
  have hD := hD0.self (sz := s.heap.size)
  generalize hAe : va_A [(a_t, (oc6 6 5 a_n e_n)), (a_n, (arI G 30 f_n))] s.heap.size = A at hD hT ⊢
  have hA : ∀ q : Nat, s.heap.size ≤ q → A q := fun q h => by rw [← hAe]; exact Or.inr h
  have hS : va_S A s.heap s.heap [] := va_S.rf
  have hP : va_P G.1 vwCl [(a_t, (oc6 6 5 a_n e_n)), (a_n, (arI G 30 f_n))] s.heap := hP
  have hl := lv_entry ([.ref a_t, .int p_r, .int p_c]) (n := 3) (Nat.le_of_ble_eq_true rfl)
  rw [lg_entry_eq]
  generalize (lg_sl ([.ref a_t, .int p_r, .int p_c]) ++ List.replicate (3 - (lg_sl ([.ref a_t, .int p_r, .int p_c])).length) Slot.unset).toArray = ls at hl ⊢
  have hl : lv_has ls 3 [(0, .ref a_t), (1, .int p_r), (2, .int p_c)] := hl
  refine lv_iload_n hx hb dX6_get_0 rfl (lv_at hl 1 rfl) ?_
  refine lv_if_lt (tgt := 24) hx hb dX6_get_1 (by decide) (fun c_1 => ?_) (fun c_1 => ?_)
  ·
    have i_1 : p_r.toInt < 0 := by have z := g5_lt (a := p_r.toInt) (b := 0) (by rfl) (by decide) c_1; omega
    refine lv_iconst (v := (-1)) hx hb dX6_get_24 (by decide) ?_
    exact W.iret (v := (-1)) hx hb hr (fun t ht hW => ⟨⟨(-1), [(a_t, (oc6 6 5 a_n e_n)), (a_n, (arI G 30 f_n))], rfl, ⟨(-1), qt_getN (by omega), rfl, rfl⟩, by rw [ht]; exact hP.sub [0, 1] rfl, hD.sub [0, 1] (by decide) rfl⟩, hS.F ht⟩) hS.2.2 dX6_get_25
  ·
    have i_1 : p_r.toInt ≥ 0 := by have z := g5_ltN (a := p_r.toInt) (b := 0) (by rfl) (by decide) c_1; omega
    refine lv_iload_n hx hb dX6_get_4 rfl (lv_at hl 1 rfl) ?_
    refine lv_aload_n hx hb dX6_get_5 rfl (lv_at hl 0 rfl) ?_
    refine va_get (D := G.1) (ci := 6) (v := .int e_n) (C := RX6) (T := TX6) (N := 4) hx hb hts inG_X6 hown hK hP 0 rfl rfl 3 (by decide) (hts _ fl_X6_9) (fun _ h9 => h9) rfl dX6_get_6 ?_
    refine lv_icmp_ge (tgt := 24) hx hb dX6_get_9 (by decide) (fun c_2 => ?_) (fun c_2 => ?_)
    ·
      have i_2 : p_r.toInt ≥ e_n.toInt := by have z := g5_ge (a := p_r.toInt) (b := e_n.toInt) (by rfl) (by rfl) c_2; omega
      refine lv_iconst (v := (-1)) hx hb dX6_get_24 (by decide) ?_
      exact W.iret (v := (-1)) hx hb hr (fun t ht hW => ⟨⟨(-1), [(a_t, (oc6 6 5 a_n e_n)), (a_n, (arI G 30 f_n))], rfl, ⟨(-1), qt_getN (by omega), rfl, rfl⟩, by rw [ht]; exact hP.sub [0, 1] rfl, hD.sub [0, 1] (by decide) rfl⟩, hS.F ht⟩) hS.2.2 dX6_get_25
    ·
      have i_2 : p_r.toInt < e_n.toInt := by have z := g5_geN (a := p_r.toInt) (b := e_n.toInt) (by rfl) (by rfl) c_2; omega
      refine lv_iload_n hx hb dX6_get_12 rfl (lv_at hl 2 rfl) ?_
      refine lv_if_lt (tgt := 24) hx hb dX6_get_13 (by decide) (fun c_3 => ?_) (fun c_3 => ?_)
      ·
        have i_3 : p_c.toInt < 0 := by have z := g5_lt (a := p_c.toInt) (b := 0) (by rfl) (by decide) c_3; omega
        refine lv_iconst (v := (-1)) hx hb dX6_get_24 (by decide) ?_
        exact W.iret (v := (-1)) hx hb hr (fun t ht hW => ⟨⟨(-1), [(a_t, (oc6 6 5 a_n e_n)), (a_n, (arI G 30 f_n))], rfl, ⟨(-1), qt_getN (by omega), rfl, rfl⟩, by rw [ht]; exact hP.sub [0, 1] rfl, hD.sub [0, 1] (by decide) rfl⟩, hS.F ht⟩) hS.2.2 dX6_get_25
      ·
        have i_3 : p_c.toInt ≥ 0 := by have z := g5_ltN (a := p_c.toInt) (b := 0) (by rfl) (by decide) c_3; omega
        refine lv_iload_n hx hb dX6_get_16 rfl (lv_at hl 2 rfl) ?_
        refine lv_aload_n hx hb dX6_get_17 rfl (lv_at hl 0 rfl) ?_
        refine va_get (D := G.1) (ci := 6) (v := .int 5) (C := RX6) (T := TX6) (N := 4) hx hb hts inG_X6 hown hK hP 0 rfl rfl 1 (by decide) (hts _ fl_X6_18) (fun _ h9 => h9) rfl dX6_get_18 ?_
        refine lv_icmp_lt (tgt := 26) hx hb dX6_get_21 (by decide) (fun c_4 => ?_) (fun c_4 => ?_)
        ·
          have i_4 : p_c.toInt < 5 := by have z := g5_lt (a := p_c.toInt) (b := 5) (by rfl) (by decide) c_4; omega
          refine lv_aload_n hx hb dX6_get_26 rfl (lv_at hl 0 rfl) ?_
          refine va_get (D := G.1) (ci := 6) (v := .ref a_n) (C := RX6) (T := TX6) (N := 4) hx hb hts inG_X6 hown hK hP 0 rfl rfl 2 (by decide) (hts _ fl_X6_21) (fun _ h9 => h9) rfl dX6_get_27 ?_
          refine lv_iload_n hx hb dX6_get_30 rfl (lv_at hl 1 rfl) ?_
          refine lv_aload_n hx hb dX6_get_31 rfl (lv_at hl 0 rfl) ?_
          refine W.eq (g2 := F0 m 32 ls [.ref a_t, .int p_r, .ref a_n]) rfl ?_
          refine va_get (D := G.1) (ci := 6) (v := .int 5) (C := RX6) (T := TX6) (N := 4) hx hb hts inG_X6 hown hK hP 0 rfl rfl 1 (by decide) (hts _ fl_X6_18) (fun _ h9 => h9) rfl dX6_get_32 ?_
          refine lv_imul hx hb dX6_get_35 ?_
          have t_5 : (p_r * 5).toInt = p_r.toInt * 5 := g5_imul (a := p_r.toInt) (b := 5) (by rfl) (by decide) (by omega) (by omega)
          refine lv_iload_n hx hb dX6_get_36 rfl (lv_at hl 2 rfl) ?_
          refine lv_iadd hx hb dX6_get_37 ?_
          have t_6 : ((p_r * 5) + p_c).toInt = (p_r * 5).toInt + p_c.toInt := g5_iadd (a := (p_r * 5).toInt) (b := p_c.toInt) (by rfl) (by rfl) (by omega) (by omega)
          refine va_iald hx hb hK hP 1 0 rfl rfl (i := ((p_r * 5) + p_c)) (vp_in_iff.mpr ⟨by omega, by omega⟩) dX6_get_38 ?_
          refine W.eq (g2 := F0 m 39 ls [.int (f_n ((p_r * 5) + p_c).toNatClampNeg)]) rfl ?_
          exact W.iret (v := (f_n ((p_r * 5) + p_c).toNatClampNeg)) hx hb hr (fun t ht hW => ⟨⟨(f_n ((p_r * 5) + p_c).toNatClampNeg), [(a_t, (oc6 6 5 a_n e_n)), (a_n, (arI G 30 f_n))], rfl, ⟨(f_n ((p_r * 5) + p_c).toNatClampNeg), qt_get (x := ((p_r * 5) + p_c)) (by omega) (by omega), rfl, rfl⟩, by rw [ht]; exact hP.sub [0, 1] rfl, hD.sub [0, 1] (by decide) rfl⟩, hS.F ht⟩) hS.2.2 dX6_get_39
        ·
          have i_4 : p_c.toInt ≥ 5 := by have z := g5_ltN (a := p_c.toInt) (b := 5) (by rfl) (by decide) c_4; omega
          refine lv_iconst (v := (-1)) hx hb dX6_get_24 (by decide) ?_
          exact W.iret (v := (-1)) hx hb hr (fun t ht hW => ⟨⟨(-1), [(a_t, (oc6 6 5 a_n e_n)), (a_n, (arI G 30 f_n))], rfl, ⟨(-1), qt_getN (by omega), rfl, rfl⟩, by rw [ht]; exact hP.sub [0, 1] rfl, hD.sub [0, 1] (by decide) rfl⟩, hS.F ht⟩) hS.2.2 dX6_get_25
theorem dgX6_set_0 : ∀ r ∈ ([(0, (.aload_n 0, 1)), (1, (.iload_n 1, 1)), (2, (.invokevirtual 25, 3)), (5, (.ifCond .eq 29, 3)), (8, (.iload_n 2, 1)), (9, (.ifCond .lt 25, 3)), (12, (.iload_n 2, 1)), (13, (.aload_n 0, 1)), (14, (.getfield 18, 3)), (17, (.if_icmp .ge 17, 3)), (20, (.aload_n 0, 1)), (21, (.getfield 21, 3)), (24, (.iload_n 1, 1)), (25, (.aload_n 0, 1)), (26, (.getfield 18, 3)), (29, (.imul, 1)), (30, (.iload_n 2, 1)), (31, (.iadd, 1)), (32, (.iload_n 3, 1)), (33, (.iastore, 1)), (34, (.return_, 1))] : List (Nat × (Instr × Nat))), decode cX6_set r.1 = .ok r.2 := by decide +kernel
theorem dX6_set_0 : decode cX6_set 0 = .ok (.aload_n 0, 1) := dgX6_set_0 (0, (.aload_n 0, 1)) (List.mem_of_getElem? (i := 0) rfl)
theorem dX6_set_1 : decode cX6_set 1 = .ok (.iload_n 1, 1) := dgX6_set_0 (1, (.iload_n 1, 1)) (List.mem_of_getElem? (i := 1) rfl)
theorem dX6_set_2 : decode cX6_set 2 = .ok (.invokevirtual 25, 3) := dgX6_set_0 (2, (.invokevirtual 25, 3)) (List.mem_of_getElem? (i := 2) rfl)
theorem dX6_set_5 : decode cX6_set 5 = .ok (.ifCond .eq 29, 3) := dgX6_set_0 (5, (.ifCond .eq 29, 3)) (List.mem_of_getElem? (i := 3) rfl)
theorem dX6_set_8 : decode cX6_set 8 = .ok (.iload_n 2, 1) := dgX6_set_0 (8, (.iload_n 2, 1)) (List.mem_of_getElem? (i := 4) rfl)
theorem dX6_set_9 : decode cX6_set 9 = .ok (.ifCond .lt 25, 3) := dgX6_set_0 (9, (.ifCond .lt 25, 3)) (List.mem_of_getElem? (i := 5) rfl)
theorem dX6_set_12 : decode cX6_set 12 = .ok (.iload_n 2, 1) := dgX6_set_0 (12, (.iload_n 2, 1)) (List.mem_of_getElem? (i := 6) rfl)
theorem dX6_set_13 : decode cX6_set 13 = .ok (.aload_n 0, 1) := dgX6_set_0 (13, (.aload_n 0, 1)) (List.mem_of_getElem? (i := 7) rfl)
theorem dX6_set_14 : decode cX6_set 14 = .ok (.getfield 18, 3) := dgX6_set_0 (14, (.getfield 18, 3)) (List.mem_of_getElem? (i := 8) rfl)
theorem dX6_set_17 : decode cX6_set 17 = .ok (.if_icmp .ge 17, 3) := dgX6_set_0 (17, (.if_icmp .ge 17, 3)) (List.mem_of_getElem? (i := 9) rfl)
theorem dX6_set_20 : decode cX6_set 20 = .ok (.aload_n 0, 1) := dgX6_set_0 (20, (.aload_n 0, 1)) (List.mem_of_getElem? (i := 10) rfl)
theorem dX6_set_21 : decode cX6_set 21 = .ok (.getfield 21, 3) := dgX6_set_0 (21, (.getfield 21, 3)) (List.mem_of_getElem? (i := 11) rfl)
theorem dX6_set_24 : decode cX6_set 24 = .ok (.iload_n 1, 1) := dgX6_set_0 (24, (.iload_n 1, 1)) (List.mem_of_getElem? (i := 12) rfl)
theorem dX6_set_25 : decode cX6_set 25 = .ok (.aload_n 0, 1) := dgX6_set_0 (25, (.aload_n 0, 1)) (List.mem_of_getElem? (i := 13) rfl)
theorem dX6_set_26 : decode cX6_set 26 = .ok (.getfield 18, 3) := dgX6_set_0 (26, (.getfield 18, 3)) (List.mem_of_getElem? (i := 14) rfl)
theorem dX6_set_29 : decode cX6_set 29 = .ok (.imul, 1) := dgX6_set_0 (29, (.imul, 1)) (List.mem_of_getElem? (i := 15) rfl)
theorem dX6_set_30 : decode cX6_set 30 = .ok (.iload_n 2, 1) := dgX6_set_0 (30, (.iload_n 2, 1)) (List.mem_of_getElem? (i := 16) rfl)
theorem dX6_set_31 : decode cX6_set 31 = .ok (.iadd, 1) := dgX6_set_0 (31, (.iadd, 1)) (List.mem_of_getElem? (i := 17) rfl)
theorem dX6_set_32 : decode cX6_set 32 = .ok (.iload_n 3, 1) := dgX6_set_0 (32, (.iload_n 3, 1)) (List.mem_of_getElem? (i := 18) rfl)
theorem dX6_set_33 : decode cX6_set 33 = .ok (.iastore, 1) := dgX6_set_0 (33, (.iastore, 1)) (List.mem_of_getElem? (i := 19) rfl)
theorem dX6_set_34 : decode cX6_set 34 = .ok (.return_, 1) := dgX6_set_0 (34, (.return_, 1)) (List.mem_of_getElem? (i := 20) rfl)
theorem ml_X6_25 : Cond.methodLink RX6 25 yX6_has ∈ tblG := tg 561 (by decide +kernel) (by decide +kernel)
theorem im_X6_has : Cond.instanceMethod yX6_has ∈ tblG := tg 562 (by decide +kernel) (by decide +kernel)
theorem se_X6_has : Cond.selects RX6 yX6_has yX6_has ∈ tblG := tg 563 (by decide +kernel) (by decide +kernel)
theorem ini_X6 : Cond.initialized RX6 ∈ tblG := tg 90 (by decide +kernel) (by decide +kernel)
theorem cd_X6_has : Cond.code yX6_has cX6_has 2 (some .boolean) ∈ tblG := tg 564 (by decide +kernel) (by decide +kernel)
theorem gW_X6_has : GoodIn tblG (wsG yX6_has cX6_has 2 (some .boolean)) := tgi cd_X6_has
theorem gV_X6_25 : GoodIn tblG (wsV RX6 25 RX6 yX6_has (wsG yX6_has cX6_has 2 (some .boolean))) := tgV ml_X6_25 im_X6_has se_X6_has ini_X6 gW_X6_has
theorem hv_X6_has : yX6_has.cls = RX6 ∧ yX6_has.cls ≠ "java/lang/invoke/MethodHandle" ∧ yX6_has.cls ≠ "java/lang/invoke/VarHandle" ∧ (parseMethodDescriptor yX6_has.desc).map (fun d => d.parameters.length) = some 1 := by decide +kernel
set_option maxHeartbeats 4000000 in
set_option maxRecDepth 100000 in
theorem t_set_G (l : Launch) (G : g5_G) (a_t a_n : Nat) (sz : Nat) (e_n : Int32) (p_r : Int32) (p_c : Int32) (p_v : Int32) (f_n : Nat → Int32) (h_e_n : 0 ≤ e_n.toInt ∧ e_n.toInt ≤ 6) : Met l yX6_set (wsG yX6_set cX6_set 4 none) ({ frames := 1, cells := 0, slots := 0, locals := 21 }) (va_Pc [.ref a_t, .int p_r, .int p_c, .int p_v] (g5_P G [(a_t, (oc6 6 5 a_n e_n)), (a_n, (arI G 30 f_n))] sz)) (va_Qv (fun (u : va_W) => (∃ (o_f : Nat → Int32), (o_f = tset f_n e_n.toInt 5 p_r.toInt p_c.toInt p_v) ∧ (u = [(a_t, (oc6 6 5 a_n e_n)), (a_n, (arI G 30 o_f))]))) (g5_B G (va_A [(a_t, (oc6 6 5 a_n e_n)), (a_n, (arI G 30 f_n))] sz)) (va_A [(a_t, (oc6 6 5 a_n e_n)), (a_n, (arI G 30 f_n))] sz)) 0 0 (va_A [(a_t, (oc6 6 5 a_n e_n)), (a_n, (arI G 30 f_n))] sz) := by
  refine Met.ofW (cc := cX6_set) (maxL := 4) (ret := none) (by decide +kernel) rfl ?_
  intro p e s m args below meth c s₁ B hml hv
  obtain ⟨rfl, hsz, hP, hK, hD0, hN, hT⟩ := hv
  have hx := B.exec
  have hb := B.bytes
  have hr := B.returns
  have hts : ∀ w ∈ tblG, w.before _ s = true := fun w h => atoms_spec (ws := (wsG yX6_set cX6_set 4 none)) B.pre w (List.mem_cons_of_mem _ h)
  have hown : s.vm.findClass RX6 = some m.cls := findClass_of_methodNamed B.named
  have hlocks := B.notSynchronized
  subst hsz
  have hD := hD0.self (sz := s.heap.size)
  generalize hAe : va_A [(a_t, (oc6 6 5 a_n e_n)), (a_n, (arI G 30 f_n))] s.heap.size = A at hD hT ⊢
  have hA : ∀ q : Nat, s.heap.size ≤ q → A q := fun q h => by rw [← hAe]; exact Or.inr h
  have hS : va_S A s.heap s.heap [] := va_S.rf
  replace hP : va_P G.1 vwCl [(a_t, (oc6 6 5 a_n e_n)), (a_n, (arI G 30 f_n))] s.heap := hP
  have hl := lv_entry ([.ref a_t, .int p_r, .int p_c, .int p_v]) (n := 4) (Nat.le_of_ble_eq_true rfl)
  rw [lg_entry_eq]
  generalize (lg_sl ([.ref a_t, .int p_r, .int p_c, .int p_v]) ++ List.replicate (4 - (lg_sl ([.ref a_t, .int p_r, .int p_c, .int p_v])).length) Slot.unset).toArray = ls at hl ⊢
  replace hl : lv_has ls 4 [(0, .ref a_t), (1, .int p_r), (2, .int p_c), (3, .int p_v)] := hl
  refine lv_aload_n hx hb dX6_set_0 rfl (lv_at hl 0 rfl) ?_
  refine lv_iload_n hx hb dX6_set_1 rfl (lv_at hl 1 rfl) ?_
  obtain ⟨hPc, hDc, hFc⟩ := g5_sub3 (wc := [(a_t, (oc6 6 5 a_n e_n))]) hP hD hS hA [0] (by decide +kernel) rfl
  refine va_calli (va_runV (As := [.int p_r]) (rest := []) ⟨hx, hb, hml, hown, hts⟩ (t_has_G l G a_t a_n s.heap.size e_n p_r h_e_n) (cwV 1 hts gV_X6_25 rfl rfl rfl hv_X6_has ⟨Nat.le_of_ble_eq_true rfl, Nat.le_of_ble_eq_true rfl⟩) (g5_preV hPc hK hDc hN hT hS hFc (ci := 6) (q0 := 0) rfl rfl) rfl rfl hl.1 rfl (lv_room (Nat.le_of_ble_eq_true rfl)) dX6_set_2 ⟨Nat.le_of_ble_eq_true rfl, Nat.le_of_ble_eq_true rfl⟩) hS (fun q _ h => hFc q h) hFc (fun r u t H locs ht hvm hw hB hz1 hk1 hS => ?_)
  obtain ⟨hP1, hD1⟩ := hB
  have hP1 := g5_ht ht hP1
  rcases hw with ⟨(i_1 : 0 ≤ p_r.toInt ∧ p_r.toInt < e_n.toInt), rfl, rfl⟩ | ⟨(i_2 : p_r.toInt < 0 ∨ e_n.toInt ≤ p_r.toInt), rfl, rfl⟩
  ·
    have hJ9 := va_join (wr := [(a_n, (arI G 30 f_n))]) hP hD [0] [1] rfl rfl (by decide +kernel) (by decide +kernel) hk1 hFc hP1 hD1
    clear hP hD hPc hDc hFc ht hvm hz1 hk1 hP1 hD1
    obtain ⟨hP, hD⟩ := hJ9
    refine g5_rs [(a_n, (arI G 30 f_n)), (a_t, (oc6 6 5 a_n e_n))] hP hD ?_
    clear hP hD
    intro hP hD
    refine lv_if_eq (tgt := 34) hx hb dX6_set_5 (by decide +kernel) (fun c_3 => ?_) (fun c_3 => ?_)
    ·
      exact absurd c_3 (by decide +kernel)
    ·
      refine lv_iload_n hx hb dX6_set_8 rfl (lv_at hl 2 rfl) ?_
      refine lv_if_lt (tgt := 34) hx hb dX6_set_9 (by decide +kernel) (fun c_4 => ?_) (fun c_4 => ?_)
      ·
        have i_4 : p_c.toInt < 0 := g5_lt (a := p_c.toInt) (b := 0) rfl (by decide +kernel) c_4
        exact W.vret hx hb hr (fun t ht hW => ⟨⟨[(a_t, (oc6 6 5 a_n e_n)), (a_n, (arI G 30 f_n))], rfl, ⟨f_n, qt_setN (by omega), rfl⟩, by rw [ht]; exact hP.sub [1, 0] rfl, hD.sub [1, 0] (by decide +kernel) rfl⟩, hS.F ht⟩) hS.2.2 dX6_set_34
      ·
        have i_4 : p_c.toInt ≥ 0 := g5_ltN (a := p_c.toInt) (b := 0) rfl (by decide +kernel) c_4
        refine lv_iload_n hx hb dX6_set_12 rfl (lv_at hl 2 rfl) ?_
        refine lv_aload_n hx hb dX6_set_13 rfl (lv_at hl 0 rfl) ?_
        refine va_get (D := G.1) (ci := 6) (v := .int 5) (C := RX6) (T := TX6) (N := 4) hx hb hts inG_X6 hown hK hP 1 rfl rfl 1 (by decide +kernel) (hts _ fl_X6_18) (fun _ h9 => h9) rfl dX6_set_14 ?_
        refine lv_icmp_ge (tgt := 34) hx hb dX6_set_17 (by decide +kernel) (fun c_5 => ?_) (fun c_5 => ?_)
        ·
          have i_5 : p_c.toInt ≥ 5 := g5_ge (a := p_c.toInt) (b := 5) rfl (by decide +kernel) c_5
          exact W.vret hx hb hr (fun t ht hW => ⟨⟨[(a_t, (oc6 6 5 a_n e_n)), (a_n, (arI G 30 f_n))], rfl, ⟨f_n, qt_setN (by omega), rfl⟩, by rw [ht]; exact hP.sub [1, 0] rfl, hD.sub [1, 0] (by decide +kernel) rfl⟩, hS.F ht⟩) hS.2.2 dX6_set_34
        ·
          have i_5 : p_c.toInt < 5 := g5_geN (a := p_c.toInt) (b := 5) rfl (by decide +kernel) c_5
          refine lv_aload_n hx hb dX6_set_20 rfl (lv_at hl 0 rfl) ?_
          refine va_get (D := G.1) (ci := 6) (v := .ref a_n) (C := RX6) (T := TX6) (N := 4) hx hb hts inG_X6 hown hK hP 1 rfl rfl 2 (by decide +kernel) (hts _ fl_X6_21) (fun _ h9 => h9) rfl dX6_set_21 ?_
          refine lv_iload_n hx hb dX6_set_24 rfl (lv_at hl 1 rfl) ?_
          refine lv_aload_n hx hb dX6_set_25 rfl (lv_at hl 0 rfl) ?_
          refine W.eq (g2 := F0 m 26 ls [.ref a_t, .int p_r, .ref a_n]) rfl ?_
          refine va_get (D := G.1) (ci := 6) (v := .int 5) (C := RX6) (T := TX6) (N := 4) hx hb hts inG_X6 hown hK hP 1 rfl rfl 1 (by decide +kernel) (hts _ fl_X6_18) (fun _ h9 => h9) rfl dX6_set_26 ?_
          refine lv_imul hx hb dX6_set_29 ?_
          have t_6 : (p_r * 5).toInt = p_r.toInt * 5 := g5_imul (a := p_r.toInt) (b := 5) (by rfl) (by decide +kernel) (by omega) (by omega)
          refine lv_iload_n hx hb dX6_set_30 rfl (lv_at hl 2 rfl) ?_
          refine lv_iadd hx hb dX6_set_31 ?_
          have t_7 : ((p_r * 5) + p_c).toInt = (p_r * 5).toInt + p_c.toInt := g5_iadd (a := (p_r * 5).toInt) (b := p_c.toInt) (by rfl) (by rfl) (by omega) (by omega)
          refine lv_iload_n hx hb dX6_set_32 rfl (lv_at hl 3 rfl) ?_
          refine W.eq (g2 := F0 m 33 ls [.int p_v, .int ((p_r * 5) + p_c), .ref a_n]) rfl ?_
          refine va_iast hx hb hK hP hD hS 0 0 rfl rfl (i := ((p_r * 5) + p_c)) (x := p_v) (vp_in_iff.mpr ⟨by omega, by omega⟩) dX6_set_33 ?_
          clear hP hD hS
          intro H locs hP hD hS
          refine g5_rs [(a_n, (arI G 30 (upd f_n ((p_r * 5) + p_c).toNatClampNeg p_v))), (a_t, (oc6 6 5 a_n e_n))] hP hD ?_
          clear hP hD
          intro hP hD
          exact W.vret hx hb hr (fun t ht hW => ⟨⟨[(a_t, (oc6 6 5 a_n e_n)), (a_n, (arI G 30 (upd f_n ((p_r * 5) + p_c).toNatClampNeg p_v)))], rfl, ⟨(upd f_n ((p_r * 5) + p_c).toNatClampNeg p_v), qt_set (x := ((p_r * 5) + p_c)) (by omega) (by omega), rfl⟩, by rw [ht]; exact hP.sub [1, 0] rfl, hD.sub [1, 0] (by decide +kernel) rfl⟩, hS.F ht⟩) hS.2.2 dX6_set_34
  ·
    have hJ9 := va_join (wr := [(a_n, (arI G 30 f_n))]) hP hD [0] [1] rfl rfl (by decide +kernel) (by decide +kernel) hk1 hFc hP1 hD1
    clear hP hD hPc hDc hFc ht hvm hz1 hk1 hP1 hD1
    obtain ⟨hP, hD⟩ := hJ9
    refine g5_rs [(a_n, (arI G 30 f_n)), (a_t, (oc6 6 5 a_n e_n))] hP hD ?_
    clear hP hD
    intro hP hD
    refine lv_if_eq (tgt := 34) hx hb dX6_set_5 (by decide +kernel) (fun c_8 => ?_) (fun c_8 => ?_)
    ·
      exact W.vret hx hb hr (fun t ht hW => ⟨⟨[(a_t, (oc6 6 5 a_n e_n)), (a_n, (arI G 30 f_n))], rfl, ⟨f_n, qt_setN (by omega), rfl⟩, by rw [ht]; exact hP.sub [1, 0] rfl, hD.sub [1, 0] (by decide +kernel) rfl⟩, hS.F ht⟩) hS.2.2 dX6_set_34
    ·
      exact absurd c_8 (by decide +kernel)
theorem dgX6_open_0 : ∀ r ∈ ([(0, (.aload_n 0, 1)), (1, (.invokevirtual 33, 3)), (4, (.ifCond .eq 5, 3)), (7, (.iconst (-1), 1)), (8, (.ireturn, 1)), (9, (.aload_n 0, 1)), (10, (.getfield 9, 3)), (13, (.istore_n 2, 1)), (14, (.aload_n 0, 1)), (15, (.dup, 1)), (16, (.getfield 9, 3)), (19, (.iconst 1, 1)), (20, (.iadd, 1)), (21, (.putfield 9, 3)), (24, (.iconst 0, 1)), (25, (.istore_n 3, 1)), (26, (.iload_n 3, 1)), (27, (.aload_n 0, 1)), (28, (.getfield 18, 3)), (31, (.if_icmp .ge 16, 3)), (34, (.aload_n 0, 1)), (35, (.iload_n 2, 1)), (36, (.iload_n 3, 1)), (37, (.iload_n 1, 1)), (38, (.invokevirtual 29, 3)), (41, (.iinc 3 1, 3)), (44, (.goto (-18), 3)), (47, (.iload_n 2, 1)), (48, (.ireturn, 1))] : List (Nat × (Instr × Nat))), decode cX6_open r.1 = .ok r.2 := by decide +kernel
theorem dX6_open_0 : decode cX6_open 0 = .ok (.aload_n 0, 1) := dgX6_open_0 (0, (.aload_n 0, 1)) (List.mem_of_getElem? (i := 0) rfl)
theorem dX6_open_1 : decode cX6_open 1 = .ok (.invokevirtual 33, 3) := dgX6_open_0 (1, (.invokevirtual 33, 3)) (List.mem_of_getElem? (i := 1) rfl)
theorem dX6_open_4 : decode cX6_open 4 = .ok (.ifCond .eq 5, 3) := dgX6_open_0 (4, (.ifCond .eq 5, 3)) (List.mem_of_getElem? (i := 2) rfl)
theorem dX6_open_7 : decode cX6_open 7 = .ok (.iconst (-1), 1) := dgX6_open_0 (7, (.iconst (-1), 1)) (List.mem_of_getElem? (i := 3) rfl)
theorem dX6_open_8 : decode cX6_open 8 = .ok (.ireturn, 1) := dgX6_open_0 (8, (.ireturn, 1)) (List.mem_of_getElem? (i := 4) rfl)
theorem dX6_open_9 : decode cX6_open 9 = .ok (.aload_n 0, 1) := dgX6_open_0 (9, (.aload_n 0, 1)) (List.mem_of_getElem? (i := 5) rfl)
theorem dX6_open_10 : decode cX6_open 10 = .ok (.getfield 9, 3) := dgX6_open_0 (10, (.getfield 9, 3)) (List.mem_of_getElem? (i := 6) rfl)
theorem dX6_open_13 : decode cX6_open 13 = .ok (.istore_n 2, 1) := dgX6_open_0 (13, (.istore_n 2, 1)) (List.mem_of_getElem? (i := 7) rfl)
theorem dX6_open_14 : decode cX6_open 14 = .ok (.aload_n 0, 1) := dgX6_open_0 (14, (.aload_n 0, 1)) (List.mem_of_getElem? (i := 8) rfl)
theorem dX6_open_15 : decode cX6_open 15 = .ok (.dup, 1) := dgX6_open_0 (15, (.dup, 1)) (List.mem_of_getElem? (i := 9) rfl)
theorem dX6_open_16 : decode cX6_open 16 = .ok (.getfield 9, 3) := dgX6_open_0 (16, (.getfield 9, 3)) (List.mem_of_getElem? (i := 10) rfl)
theorem dX6_open_19 : decode cX6_open 19 = .ok (.iconst 1, 1) := dgX6_open_0 (19, (.iconst 1, 1)) (List.mem_of_getElem? (i := 11) rfl)
theorem dX6_open_20 : decode cX6_open 20 = .ok (.iadd, 1) := dgX6_open_0 (20, (.iadd, 1)) (List.mem_of_getElem? (i := 12) rfl)
theorem dX6_open_21 : decode cX6_open 21 = .ok (.putfield 9, 3) := dgX6_open_0 (21, (.putfield 9, 3)) (List.mem_of_getElem? (i := 13) rfl)
theorem dX6_open_24 : decode cX6_open 24 = .ok (.iconst 0, 1) := dgX6_open_0 (24, (.iconst 0, 1)) (List.mem_of_getElem? (i := 14) rfl)
theorem dX6_open_25 : decode cX6_open 25 = .ok (.istore_n 3, 1) := dgX6_open_0 (25, (.istore_n 3, 1)) (List.mem_of_getElem? (i := 15) rfl)
theorem dX6_open_26 : decode cX6_open 26 = .ok (.iload_n 3, 1) := dgX6_open_0 (26, (.iload_n 3, 1)) (List.mem_of_getElem? (i := 16) rfl)
theorem dX6_open_27 : decode cX6_open 27 = .ok (.aload_n 0, 1) := dgX6_open_0 (27, (.aload_n 0, 1)) (List.mem_of_getElem? (i := 17) rfl)
theorem dX6_open_28 : decode cX6_open 28 = .ok (.getfield 18, 3) := dgX6_open_0 (28, (.getfield 18, 3)) (List.mem_of_getElem? (i := 18) rfl)
theorem dX6_open_31 : decode cX6_open 31 = .ok (.if_icmp .ge 16, 3) := dgX6_open_0 (31, (.if_icmp .ge 16, 3)) (List.mem_of_getElem? (i := 19) rfl)
theorem dX6_open_34 : decode cX6_open 34 = .ok (.aload_n 0, 1) := dgX6_open_0 (34, (.aload_n 0, 1)) (List.mem_of_getElem? (i := 20) rfl)
theorem dX6_open_35 : decode cX6_open 35 = .ok (.iload_n 2, 1) := dgX6_open_0 (35, (.iload_n 2, 1)) (List.mem_of_getElem? (i := 21) rfl)
theorem dX6_open_36 : decode cX6_open 36 = .ok (.iload_n 3, 1) := dgX6_open_0 (36, (.iload_n 3, 1)) (List.mem_of_getElem? (i := 22) rfl)
theorem dX6_open_37 : decode cX6_open 37 = .ok (.iload_n 1, 1) := dgX6_open_0 (37, (.iload_n 1, 1)) (List.mem_of_getElem? (i := 23) rfl)
theorem dX6_open_38 : decode cX6_open 38 = .ok (.invokevirtual 29, 3) := dgX6_open_0 (38, (.invokevirtual 29, 3)) (List.mem_of_getElem? (i := 24) rfl)
theorem dX6_open_41 : decode cX6_open 41 = .ok (.iinc 3 1, 3) := dgX6_open_0 (41, (.iinc 3 1, 3)) (List.mem_of_getElem? (i := 25) rfl)
theorem dX6_open_44 : decode cX6_open 44 = .ok (.goto (-18), 3) := dgX6_open_0 (44, (.goto (-18), 3)) (List.mem_of_getElem? (i := 26) rfl)
theorem dX6_open_47 : decode cX6_open 47 = .ok (.iload_n 2, 1) := dgX6_open_0 (47, (.iload_n 2, 1)) (List.mem_of_getElem? (i := 27) rfl)
theorem dX6_open_48 : decode cX6_open 48 = .ok (.ireturn, 1) := dgX6_open_0 (48, (.ireturn, 1)) (List.mem_of_getElem? (i := 28) rfl)
theorem ml_X6_33 : Cond.methodLink RX6 33 yX6_isFull ∈ tblG := tg 556 (by decide +kernel) (by decide +kernel)
theorem im_X6_isFull : Cond.instanceMethod yX6_isFull ∈ tblG := tg 549 (by decide +kernel) (by decide +kernel)
theorem se_X6_isFull : Cond.selects RX6 yX6_isFull yX6_isFull ∈ tblG := tg 550 (by decide +kernel) (by decide +kernel)
theorem cd_X6_isFull : Cond.code yX6_isFull cX6_isFull 1 (some .boolean) ∈ tblG := tg 551 (by decide +kernel) (by decide +kernel)
theorem gW_X6_isFull : GoodIn tblG (wsG yX6_isFull cX6_isFull 1 (some .boolean)) := tgi cd_X6_isFull
theorem gV_X6_33 : GoodIn tblG (wsV RX6 33 RX6 yX6_isFull (wsG yX6_isFull cX6_isFull 1 (some .boolean))) := tgV ml_X6_33 im_X6_isFull se_X6_isFull ini_X6 gW_X6_isFull
theorem hv_X6_isFull : yX6_isFull.cls = RX6 ∧ yX6_isFull.cls ≠ "java/lang/invoke/MethodHandle" ∧ yX6_isFull.cls ≠ "java/lang/invoke/VarHandle" ∧ (parseMethodDescriptor yX6_isFull.desc).map (fun d => d.parameters.length) = some 0 := by decide +kernel
theorem ml_X6_29 : Cond.methodLink RX6 29 yX6_set ∈ tblG := tg 557 (by decide +kernel) (by decide +kernel)
theorem im_X6_set : Cond.instanceMethod yX6_set ∈ tblG := tg 558 (by decide +kernel) (by decide +kernel)
theorem se_X6_set : Cond.selects RX6 yX6_set yX6_set ∈ tblG := tg 559 (by decide +kernel) (by decide +kernel)
theorem cd_X6_set : Cond.code yX6_set cX6_set 4 none ∈ tblG := tg 560 (by decide +kernel) (by decide +kernel)
theorem gW_X6_set : GoodIn tblG (wsG yX6_set cX6_set 4 none) := tgi cd_X6_set
theorem gV_X6_29 : GoodIn tblG (wsV RX6 29 RX6 yX6_set (wsG yX6_set cX6_set 4 none)) := tgV ml_X6_29 im_X6_set se_X6_set ini_X6 gW_X6_set
theorem hv_X6_set : yX6_set.cls = RX6 ∧ yX6_set.cls ≠ "java/lang/invoke/MethodHandle" ∧ yX6_set.cls ≠ "java/lang/invoke/VarHandle" ∧ (parseMethodDescriptor yX6_set.desc).map (fun d => d.parameters.length) = some 3 := by decide +kernel
set_option maxHeartbeats 4000000 in
set_option maxRecDepth 100000 in
theorem t_open_G (l : Launch) (G : g5_G) (a_t a_n : Nat) (sz : Nat) (e_n : Int32) (p_v : Int32) (f_n : Nat → Int32) (h_e_n : 0 ≤ e_n.toInt ∧ e_n.toInt ≤ 6) : Met l yX6_open (wsG yX6_open cX6_open 4 (some .int)) ({ frames := 2, cells := 0, slots := 0, locals := 44 }) (va_Pc [.ref a_t, .int p_v] (g5_P G [(a_t, (oc6 6 5 a_n e_n)), (a_n, (arI G 30 f_n))] sz)) (va_Qi (fun (r : Int32) (u : va_W) => ((e_n.toInt = 6) ∧ (r = (-1)) ∧ (u = [(a_t, (oc6 6 5 a_n e_n)), (a_n, (arI G 30 f_n))])) ∨ (∃ (o_f : Nat → Int32), (e_n.toInt < 6) ∧ ((e_n + 1).toInt = e_n.toInt + 1) ∧ (o_f = tfil f_n e_n.toInt 5 p_v 5) ∧ (r = e_n) ∧ (u = [(a_t, (oc6 6 5 a_n (e_n + 1))), (a_n, (arI G 30 o_f))]))) (g5_B G (va_A [(a_t, (oc6 6 5 a_n e_n)), (a_n, (arI G 30 f_n))] sz)) (va_A [(a_t, (oc6 6 5 a_n e_n)), (a_n, (arI G 30 f_n))] sz)) 0 0 (va_A [(a_t, (oc6 6 5 a_n e_n)), (a_n, (arI G 30 f_n))] sz) := by
  refine Met.ofW (cc := cX6_open) (maxL := 4) (ret := (some .int)) (by decide +kernel) rfl ?_
  intro p e s m args below meth c s₁ B hml hv
  obtain ⟨rfl, hsz, hP, hK, hD0, hN, hT⟩ := hv
  have hx := B.exec
  have hb := B.bytes
  have hr := B.returns
  have hts : ∀ w ∈ tblG, w.before _ s = true := fun w h => atoms_spec (ws := (wsG yX6_open cX6_open 4 (some .int))) B.pre w (List.mem_cons_of_mem _ h)
  have hown : s.vm.findClass RX6 = some m.cls := findClass_of_methodNamed B.named
  have hlocks := B.notSynchronized
  subst hsz
  have hD := hD0.self (sz := s.heap.size)
  generalize hAe : va_A [(a_t, (oc6 6 5 a_n e_n)), (a_n, (arI G 30 f_n))] s.heap.size = A at hD hT ⊢
  have hA : ∀ q : Nat, s.heap.size ≤ q → A q := fun q h => by rw [← hAe]; exact Or.inr h
  have hS : va_S A s.heap s.heap [] := va_S.rf
  replace hP : va_P G.1 vwCl [(a_t, (oc6 6 5 a_n e_n)), (a_n, (arI G 30 f_n))] s.heap := hP
  have hl := lv_entry ([.ref a_t, .int p_v]) (n := 4) (Nat.le_of_ble_eq_true rfl)
  rw [lg_entry_eq]
  generalize (lg_sl ([.ref a_t, .int p_v]) ++ List.replicate (4 - (lg_sl ([.ref a_t, .int p_v])).length) Slot.unset).toArray = ls at hl ⊢
  replace hl : lv_has ls 4 [(0, .ref a_t), (1, .int p_v)] := hl
  refine lv_aload_n hx hb dX6_open_0 rfl (lv_at hl 0 rfl) ?_
  obtain ⟨hPc, hDc, hFc⟩ := g5_sub3 (wc := [(a_t, (oc6 6 5 a_n e_n))]) hP hD hS hA [0] (by decide +kernel) rfl
  refine va_calli (va_runV (As := []) (rest := []) ⟨hx, hb, hml, hown, hts⟩ (t_isFull_G l G a_t a_n s.heap.size e_n h_e_n) (cwV 0 hts gV_X6_33 rfl rfl rfl hv_X6_isFull ⟨Nat.le_of_ble_eq_true rfl, Nat.le_of_ble_eq_true rfl⟩) (g5_preV hPc hK hDc hN hT hS hFc (ci := 6) (q0 := 0) rfl rfl) rfl rfl hl.1 rfl (lv_room (Nat.le_of_ble_eq_true rfl)) dX6_open_1 ⟨Nat.le_of_ble_eq_true rfl, Nat.le_of_ble_eq_true rfl⟩) hS (fun q _ h => hFc q h) hFc (fun r u t H locs ht hvm hw hB hz1 hk1 hS => ?_)
  obtain ⟨hP1, hD1⟩ := hB
  have hP1 := g5_ht ht hP1
  rcases hw with ⟨(i_1 : e_n.toInt = 6), rfl, rfl⟩ | ⟨(i_2 : e_n.toInt < 6), rfl, rfl⟩
  ·
    have hJ9 := va_join (wr := [(a_n, (arI G 30 f_n))]) hP hD [0] [1] rfl rfl (by decide +kernel) (by decide +kernel) hk1 hFc hP1 hD1
    clear hP hD hPc hDc hFc ht hvm hz1 hk1 hP1 hD1
    obtain ⟨hP, hD⟩ := hJ9
    refine g5_rs [(a_n, (arI G 30 f_n)), (a_t, (oc6 6 5 a_n e_n))] hP hD ?_
    clear hP hD
    intro hP hD
    refine lv_if_eq (tgt := 9) hx hb dX6_open_4 (by decide +kernel) (fun c_3 => ?_) (fun c_3 => ?_)
    ·
      exact absurd c_3 (by decide +kernel)
    ·
      refine lv_iconst (v := (-1)) hx hb dX6_open_7 (by decide +kernel) ?_
      exact W.iret (v := (-1)) hx hb hr (fun t ht hW => ⟨⟨(-1), [(a_t, (oc6 6 5 a_n e_n)), (a_n, (arI G 30 f_n))], rfl, Or.inl (⟨by omega, rfl, rfl⟩), by rw [ht]; exact hP.sub [1, 0] rfl, hD.sub [1, 0] (by decide +kernel) rfl⟩, hS.F ht⟩) hS.2.2 dX6_open_8
  ·
    have hJ9 := va_join (wr := [(a_n, (arI G 30 f_n))]) hP hD [0] [1] rfl rfl (by decide +kernel) (by decide +kernel) hk1 hFc hP1 hD1
    clear hP hD hPc hDc hFc ht hvm hz1 hk1 hP1 hD1
    obtain ⟨hP, hD⟩ := hJ9
    refine g5_rs [(a_n, (arI G 30 f_n)), (a_t, (oc6 6 5 a_n e_n))] hP hD ?_
    clear hP hD
    intro hP hD
    refine lv_if_eq (tgt := 9) hx hb dX6_open_4 (by decide +kernel) (fun c_4 => ?_) (fun c_4 => ?_)
    ·
      refine lv_aload_n hx hb dX6_open_9 rfl (lv_at hl 0 rfl) ?_
      refine va_get (D := G.1) (ci := 6) (v := .int e_n) (C := RX6) (T := TX6) (N := 4) hx hb hts inG_X6 hown hK hP 1 rfl rfl 3 (by decide +kernel) (hts _ fl_X6_9) (fun _ h9 => h9) rfl dX6_open_10 ?_
      refine lv_istore_n (lv' := [(2, .int e_n), (0, .ref a_t), (1, .int p_v)]) hx hb dX6_open_13 rfl hl (by decide +kernel) rfl ?_
      clear hl
      intro ls hl
      refine lv_aload_n hx hb dX6_open_14 rfl (lv_at hl 1 rfl) ?_
      refine W.eq (g2 := F0 m 15 ls [.ref a_t]) rfl ?_
      refine lv_dup hx hb dX6_open_15 rfl ?_
      refine va_get (D := G.1) (ci := 6) (v := .int e_n) (C := RX6) (T := TX6) (N := 4) hx hb hts inG_X6 hown hK hP 1 rfl rfl 3 (by decide +kernel) (hts _ fl_X6_9) (fun _ h9 => h9) rfl dX6_open_16 ?_
      refine lv_iconst (v := 1) hx hb dX6_open_19 (by decide +kernel) ?_
      refine lv_iadd hx hb dX6_open_20 ?_
      have t_5 : (e_n + 1).toInt = e_n.toInt + 1 := g5_iadd (a := e_n.toInt) (b := 1) (by rfl) (by decide +kernel) (by omega) (by omega)
      refine va_put (D := G.1) (ci := 6) (v := .int (e_n + 1)) (ty := .int) (C := RX6) (T := TX6) (N := 4) hx hb hts inG_X6 tyX6 tyX6_ok nmX6 hown hK hP hD hS 1 rfl rfl 3 (by decide +kernel) (hts _ fl_X6_9) (fun _ h9 => h9) rfl (by decide +kernel) rfl rfl (Nat.le_of_ble_eq_true rfl) dX6_open_21 ?_
      clear hP hD hS
      intro H locs hP hD hS
      refine g5_rs [(a_n, (arI G 30 f_n)), (a_t, (oc6 6 5 a_n (e_n + 1)))] hP hD ?_
      clear hP hD
      intro hP hD
      refine W.eq (g2 := F0 m 24 ls []) rfl ?_
      refine lv_iconst (v := 0) hx hb dX6_open_24 (by decide +kernel) ?_
      refine lv_istore_n (lv' := [(3, .int 0), (2, .int e_n), (0, .ref a_t), (1, .int p_v)]) hx hb dX6_open_25 rfl hl (by decide +kernel) rfl ?_
      clear hl
      intro ls hl
      refine g5_loop (α := (Int32) × (Nat → Int32)) (fun (q : (Int32) × (Nat → Int32)) (ls : Array Slot) (H : Heap) (locs : List Loc) => match q with | (k_c, k_f) => lv_has ls 4 [(3, .int k_c), (2, .int e_n), (0, .ref a_t), (1, .int p_v)] ∧ va_P G.1 vwCl [(a_n, (arI G 30 k_f)), (a_t, (oc6 6 5 a_n (e_n + 1)))] H ∧ va_D A [(a_n, (arI G 30 k_f)), (a_t, (oc6 6 5 a_n (e_n + 1)))] ∧ va_S A s.heap H locs ∧ (0 ≤ k_c.toInt ∧ k_c.toInt ≤ 5) ∧ (k_f = tfil f_n e_n.toInt 5 p_v k_c.toInt)) (fun (q : (Int32) × (Nat → Int32)) => match q with | (k_c, k_f) => Int.toNat (5 - k_c.toInt)) (0, f_n) ⟨lv_sub hl [0, 1, 2, 3] rfl, hP, hD, hS, ⟨by decide, by decide⟩, qt_fil0⟩ ?_
      rintro ⟨k_c, k_f⟩ ls H locs ⟨hl, hP, hD, hS, (i_6 : 0 ≤ k_c.toInt ∧ k_c.toInt ≤ 5), (i_7 : k_f = tfil f_n e_n.toInt 5 p_v k_c.toInt)⟩ ih_26_8
      replace hl : lv_has ls 4 [(3, .int k_c), (2, .int e_n), (0, .ref a_t), (1, .int p_v)] := hl
      refine g5_rs [(a_n, (arI G 30 k_f)), (a_t, (oc6 6 5 a_n (e_n + 1)))] hP hD ?_
      clear hP hD
      intro hP hD
      refine lv_iload_n hx hb dX6_open_26 rfl (lv_at hl 0 rfl) ?_
      refine lv_aload_n hx hb dX6_open_27 rfl (lv_at hl 2 rfl) ?_
      refine va_get (D := G.1) (ci := 6) (v := .int 5) (C := RX6) (T := TX6) (N := 4) hx hb hts inG_X6 hown hK hP 1 rfl rfl 1 (by decide +kernel) (hts _ fl_X6_18) (fun _ h9 => h9) rfl dX6_open_28 ?_
      refine lv_icmp_ge (tgt := 47) hx hb dX6_open_31 (by decide +kernel) (fun c_9 => ?_) (fun c_9 => ?_)
      ·
        have i_9 : k_c.toInt ≥ 5 := g5_ge (a := k_c.toInt) (b := 5) rfl (by decide +kernel) c_9
        refine lv_iload_n hx hb dX6_open_47 rfl (lv_at hl 1 rfl) ?_
        exact W.iret (v := e_n) hx hb hr (fun t ht hW => ⟨⟨e_n, [(a_t, (oc6 6 5 a_n (e_n + 1))), (a_n, (arI G 30 k_f))], rfl, Or.inr (⟨k_f, by omega, by omega, by rw [i_7, show k_c.toInt = 5 by omega], rfl, rfl⟩), by rw [ht]; exact hP.sub [1, 0] rfl, hD.sub [1, 0] (by decide +kernel) rfl⟩, hS.F ht⟩) hS.2.2 dX6_open_48
      ·
        have i_9 : k_c.toInt < 5 := g5_geN (a := k_c.toInt) (b := 5) rfl (by decide +kernel) c_9
        refine lv_aload_n hx hb dX6_open_34 rfl (lv_at hl 2 rfl) ?_
        refine lv_iload_n hx hb dX6_open_35 rfl (lv_at hl 1 rfl) ?_
        refine lv_iload_n hx hb dX6_open_36 rfl (lv_at hl 0 rfl) ?_
        refine lv_iload_n hx hb dX6_open_37 rfl (lv_at hl 3 rfl) ?_
        refine W.eq (g2 := F0 m 38 ls [.int p_v, .int k_c, .int e_n, .ref a_t]) rfl ?_
        obtain ⟨hPc, hDc, hFc⟩ := g5_sub3 (wc := [(a_t, (oc6 6 5 a_n (e_n + 1))), (a_n, (arI G 30 k_f))]) hP hD hS hA [1, 0] (by decide +kernel) rfl
        refine va_callv (va_runV (As := [.int e_n, .int k_c, .int p_v]) (rest := []) ⟨hx, hb, hml, hown, hts⟩ (t_set_G l G a_t a_n H.size (e_n + 1) e_n k_c p_v k_f ⟨by omega, by omega⟩) (cwV 3 hts gV_X6_29 rfl rfl rfl hv_X6_set ⟨Nat.le_of_ble_eq_true rfl, Nat.le_of_ble_eq_true rfl⟩) (g5_preV hPc hK hDc hN hT hS hFc (ci := 6) (q0 := 0) rfl rfl) rfl rfl hl.1 rfl (lv_room (Nat.le_of_ble_eq_true rfl)) dX6_open_38 ⟨Nat.le_of_ble_eq_true rfl, Nat.le_of_ble_eq_true rfl⟩) hS (fun q _ h => hFc q h) hFc (fun u t H locs ht hvm hw hB hz1 hk1 hS => ?_)
        obtain ⟨hP1, hD1⟩ := hB
        have hP1 := g5_ht ht hP1
        obtain ⟨z11, (i_10 : z11 = tset k_f (e_n + 1).toInt 5 e_n.toInt k_c.toInt p_v), rfl⟩ := hw
        have hJ9 := va_join (wr := []) hP hD [1, 0] [] rfl rfl (by decide +kernel) (by decide +kernel) hk1 hFc hP1 hD1
        clear hP hD hPc hDc hFc ht hvm hz1 hk1 hP1 hD1
        obtain ⟨hP, hD⟩ := hJ9
        refine g5_rs [(a_t, (oc6 6 5 a_n (e_n + 1))), (a_n, (arI G 30 z11))] hP hD ?_
        clear hP hD
        intro hP hD
        refine lv_iinc (v := (k_c + 1)) (lv' := [(3, .int (k_c + 1)), (2, .int e_n), (0, .ref a_t), (1, .int p_v)]) hx hb dX6_open_41 hl (k := 0) rfl rfl (by decide +kernel) rfl ?_
        clear hl
        intro ls hl
        have t_12 : (k_c + 1).toInt = k_c.toInt + 1 := g5_iadd (a := k_c.toInt) (b := 1) rfl (by decide +kernel) (by omega) (by omega)
        refine lv_goto (tgt := 26) hx hb dX6_open_44 (by decide +kernel) ?_
        exact ih_26_8 ((k_c + 1), z11) ls H locs (show Int.toNat (5 - (k_c + 1).toInt) < Int.toNat (5 - k_c.toInt) from g_up (show k_c.toInt < (k_c + 1).toInt by omega) (show k_c.toInt < 5 by omega)) ⟨lv_sub hl [0, 1, 2, 3] rfl, hP.sub [1, 0] rfl, hD.sub [1, 0] (by decide +kernel) rfl, hS, ⟨by omega, by omega⟩, i_10.trans (qt_filS i_7 (by omega) (by omega) (by omega) (by omega) (by omega))⟩
    ·
      exact absurd c_4 (by decide +kernel)
theorem dgX6_find_0 : ∀ r ∈ ([(0, (.iconst 0, 1)), (1, (.istore_n 3, 1)), (2, (.iload_n 3, 1)), (3, (.aload_n 0, 1)), (4, (.getfield 9, 3)), (7, (.if_icmp .ge 21, 3)), (10, (.aload_n 0, 1)), (11, (.iload_n 3, 1)), (12, (.iload_n 1, 1)), (13, (.invokevirtual 43, 3)), (16, (.iload_n 2, 1)), (17, (.if_icmp .ne 5, 3)), (20, (.iload_n 3, 1)), (21, (.ireturn, 1)), (22, (.iinc 3 1, 3)), (25, (.goto (-23), 3)), (28, (.iconst (-1), 1)), (29, (.ireturn, 1))] : List (Nat × (Instr × Nat))), decode cX6_find r.1 = .ok r.2 := by decide +kernel
theorem dX6_find_0 : decode cX6_find 0 = .ok (.iconst 0, 1) := dgX6_find_0 (0, (.iconst 0, 1)) (List.mem_of_getElem? (i := 0) rfl)
theorem dX6_find_1 : decode cX6_find 1 = .ok (.istore_n 3, 1) := dgX6_find_0 (1, (.istore_n 3, 1)) (List.mem_of_getElem? (i := 1) rfl)
theorem dX6_find_2 : decode cX6_find 2 = .ok (.iload_n 3, 1) := dgX6_find_0 (2, (.iload_n 3, 1)) (List.mem_of_getElem? (i := 2) rfl)
theorem dX6_find_3 : decode cX6_find 3 = .ok (.aload_n 0, 1) := dgX6_find_0 (3, (.aload_n 0, 1)) (List.mem_of_getElem? (i := 3) rfl)
theorem dX6_find_4 : decode cX6_find 4 = .ok (.getfield 9, 3) := dgX6_find_0 (4, (.getfield 9, 3)) (List.mem_of_getElem? (i := 4) rfl)
theorem dX6_find_7 : decode cX6_find 7 = .ok (.if_icmp .ge 21, 3) := dgX6_find_0 (7, (.if_icmp .ge 21, 3)) (List.mem_of_getElem? (i := 5) rfl)
theorem dX6_find_10 : decode cX6_find 10 = .ok (.aload_n 0, 1) := dgX6_find_0 (10, (.aload_n 0, 1)) (List.mem_of_getElem? (i := 6) rfl)
theorem dX6_find_11 : decode cX6_find 11 = .ok (.iload_n 3, 1) := dgX6_find_0 (11, (.iload_n 3, 1)) (List.mem_of_getElem? (i := 7) rfl)
theorem dX6_find_12 : decode cX6_find 12 = .ok (.iload_n 1, 1) := dgX6_find_0 (12, (.iload_n 1, 1)) (List.mem_of_getElem? (i := 8) rfl)
theorem dX6_find_13 : decode cX6_find 13 = .ok (.invokevirtual 43, 3) := dgX6_find_0 (13, (.invokevirtual 43, 3)) (List.mem_of_getElem? (i := 9) rfl)
theorem dX6_find_16 : decode cX6_find 16 = .ok (.iload_n 2, 1) := dgX6_find_0 (16, (.iload_n 2, 1)) (List.mem_of_getElem? (i := 10) rfl)
theorem dX6_find_17 : decode cX6_find 17 = .ok (.if_icmp .ne 5, 3) := dgX6_find_0 (17, (.if_icmp .ne 5, 3)) (List.mem_of_getElem? (i := 11) rfl)
theorem dX6_find_20 : decode cX6_find 20 = .ok (.iload_n 3, 1) := dgX6_find_0 (20, (.iload_n 3, 1)) (List.mem_of_getElem? (i := 12) rfl)
theorem dX6_find_21 : decode cX6_find 21 = .ok (.ireturn, 1) := dgX6_find_0 (21, (.ireturn, 1)) (List.mem_of_getElem? (i := 13) rfl)
theorem dX6_find_22 : decode cX6_find 22 = .ok (.iinc 3 1, 3) := dgX6_find_0 (22, (.iinc 3 1, 3)) (List.mem_of_getElem? (i := 14) rfl)
theorem dX6_find_25 : decode cX6_find 25 = .ok (.goto (-23), 3) := dgX6_find_0 (25, (.goto (-23), 3)) (List.mem_of_getElem? (i := 15) rfl)
theorem dX6_find_28 : decode cX6_find 28 = .ok (.iconst (-1), 1) := dgX6_find_0 (28, (.iconst (-1), 1)) (List.mem_of_getElem? (i := 16) rfl)
theorem dX6_find_29 : decode cX6_find 29 = .ok (.ireturn, 1) := dgX6_find_0 (29, (.ireturn, 1)) (List.mem_of_getElem? (i := 17) rfl)
theorem ml_X6_43 : Cond.methodLink RX6 43 yX6_get ∈ tblG := tg 521 (by decide +kernel) (by decide +kernel)
theorem im_X6_get : Cond.instanceMethod yX6_get ∈ tblG := tg 522 (by decide +kernel) (by decide +kernel)
theorem se_X6_get : Cond.selects RX6 yX6_get yX6_get ∈ tblG := tg 523 (by decide +kernel) (by decide +kernel)
theorem cd_X6_get : Cond.code yX6_get cX6_get 3 (some .int) ∈ tblG := tg 524 (by decide +kernel) (by decide +kernel)
theorem gW_X6_get : GoodIn tblG (wsG yX6_get cX6_get 3 (some .int)) := tgi cd_X6_get
theorem gV_X6_43 : GoodIn tblG (wsV RX6 43 RX6 yX6_get (wsG yX6_get cX6_get 3 (some .int))) := tgV ml_X6_43 im_X6_get se_X6_get ini_X6 gW_X6_get
theorem hv_X6_get : yX6_get.cls = RX6 ∧ yX6_get.cls ≠ "java/lang/invoke/MethodHandle" ∧ yX6_get.cls ≠ "java/lang/invoke/VarHandle" ∧ (parseMethodDescriptor yX6_get.desc).map (fun d => d.parameters.length) = some 2 := by decide +kernel
set_option maxHeartbeats 4000000 in
set_option maxRecDepth 100000 in
theorem t_find_G (l : Launch) (G : g5_G) (a_t a_n : Nat) (sz : Nat) (e_n : Int32) (p_c : Int32) (p_v : Int32) (f_n : Nat → Int32) (h_e_n : 0 ≤ e_n.toInt ∧ e_n.toInt ≤ 6) : Met l yX6_find (wsG yX6_find cX6_find 4 (some .int)) ({ frames := 1, cells := 0, slots := 0, locals := 22 }) (va_Pc [.ref a_t, .int p_c, .int p_v] (g5_P G [(a_t, (oc6 6 5 a_n e_n)), (a_n, (arI G 30 f_n))] sz)) (va_Qi (fun (r : Int32) (u : va_W) => ((∀ r : Int, 0 ≤ r → r < e_n.toInt → tget f_n e_n.toInt 5 r p_c.toInt ≠ p_v) ∧ (r = (-1)) ∧ (u = [(a_t, (oc6 6 5 a_n e_n)), (a_n, (arI G 30 f_n))])) ∨ (∃ (o_r : Int32), (0 ≤ o_r.toInt ∧ o_r.toInt < e_n.toInt) ∧ (tget f_n e_n.toInt 5 o_r.toInt p_c.toInt = p_v) ∧ (r = o_r) ∧ (u = [(a_t, (oc6 6 5 a_n e_n)), (a_n, (arI G 30 f_n))]))) (g5_B G (va_A [(a_t, (oc6 6 5 a_n e_n)), (a_n, (arI G 30 f_n))] sz)) (va_A [(a_t, (oc6 6 5 a_n e_n)), (a_n, (arI G 30 f_n))] sz)) 0 0 (va_A [(a_t, (oc6 6 5 a_n e_n)), (a_n, (arI G 30 f_n))] sz) := by
  refine Met.ofW (cc := cX6_find) (maxL := 4) (ret := (some .int)) (by decide +kernel) rfl ?_
  intro p e s m args below meth c s₁ B hml hv
  obtain ⟨rfl, hsz, hP, hK, hD0, hN, hT⟩ := hv
  have hx := B.exec
  have hb := B.bytes
  have hr := B.returns
  have hts : ∀ w ∈ tblG, w.before _ s = true := fun w h => atoms_spec (ws := (wsG yX6_find cX6_find 4 (some .int))) B.pre w (List.mem_cons_of_mem _ h)
  have hown : s.vm.findClass RX6 = some m.cls := findClass_of_methodNamed B.named
  have hlocks := B.notSynchronized
  subst hsz
  have hD := hD0.self (sz := s.heap.size)
  generalize hAe : va_A [(a_t, (oc6 6 5 a_n e_n)), (a_n, (arI G 30 f_n))] s.heap.size = A at hD hT ⊢
  have hA : ∀ q : Nat, s.heap.size ≤ q → A q := fun q h => by rw [← hAe]; exact Or.inr h
  have hS : va_S A s.heap s.heap [] := va_S.rf
  replace hP : va_P G.1 vwCl [(a_t, (oc6 6 5 a_n e_n)), (a_n, (arI G 30 f_n))] s.heap := hP
  have hl := lv_entry ([.ref a_t, .int p_c, .int p_v]) (n := 4) (Nat.le_of_ble_eq_true rfl)
  rw [lg_entry_eq]
  generalize (lg_sl ([.ref a_t, .int p_c, .int p_v]) ++ List.replicate (4 - (lg_sl ([.ref a_t, .int p_c, .int p_v])).length) Slot.unset).toArray = ls at hl ⊢
  replace hl : lv_has ls 4 [(0, .ref a_t), (1, .int p_c), (2, .int p_v)] := hl
  refine lv_iconst (v := 0) hx hb dX6_find_0 (by decide +kernel) ?_
  refine lv_istore_n (lv' := [(3, .int 0), (0, .ref a_t), (1, .int p_c), (2, .int p_v)]) hx hb dX6_find_1 rfl hl (by decide +kernel) rfl ?_
  clear hl
  intro ls hl
  refine g5_loop (α := (Int32)) (fun (k_r : (Int32)) (ls : Array Slot) (H : Heap) (locs : List Loc) => lv_has ls 4 [(3, .int k_r), (0, .ref a_t), (1, .int p_c), (2, .int p_v)] ∧ va_P G.1 vwCl [(a_t, (oc6 6 5 a_n e_n)), (a_n, (arI G 30 f_n))] H ∧ va_D A [(a_t, (oc6 6 5 a_n e_n)), (a_n, (arI G 30 f_n))] ∧ va_S A s.heap H locs ∧ (0 ≤ k_r.toInt ∧ k_r.toInt ≤ 6) ∧ (k_r.toInt ≤ e_n.toInt) ∧ (∀ r : Int, 0 ≤ r → r < k_r.toInt → tget f_n e_n.toInt 5 r p_c.toInt ≠ p_v)) (fun (k_r : (Int32)) => Int.toNat (6 - k_r.toInt)) 0 ⟨lv_sub hl [0, 1, 2, 3] rfl, hP, hD, hS, ⟨by decide, by decide⟩, by have z0 : (0 : Int32).toInt = 0 := (by decide +kernel); omega, fun r h1 h2 => absurd h2 (by have z : (0 : Int32).toInt = 0 := (by decide +kernel); omega)⟩ ?_
  rintro k_r ls H locs ⟨hl, hP, hD, hS, (i_1 : 0 ≤ k_r.toInt ∧ k_r.toInt ≤ 6), (i_2 : k_r.toInt ≤ e_n.toInt), (i_3 : ∀ r : Int, 0 ≤ r → r < k_r.toInt → tget f_n e_n.toInt 5 r p_c.toInt ≠ p_v)⟩ ih_2_4
  replace hl : lv_has ls 4 [(3, .int k_r), (0, .ref a_t), (1, .int p_c), (2, .int p_v)] := hl
  refine g5_rs [(a_t, (oc6 6 5 a_n e_n)), (a_n, (arI G 30 f_n))] hP hD ?_
  clear hP hD
  intro hP hD
  refine lv_iload_n hx hb dX6_find_2 rfl (lv_at hl 0 rfl) ?_
  refine lv_aload_n hx hb dX6_find_3 rfl (lv_at hl 1 rfl) ?_
  refine va_get (D := G.1) (ci := 6) (v := .int e_n) (C := RX6) (T := TX6) (N := 4) hx hb hts inG_X6 hown hK hP 0 rfl rfl 3 (by decide +kernel) (hts _ fl_X6_9) (fun _ h9 => h9) rfl dX6_find_4 ?_
  refine lv_icmp_ge (tgt := 28) hx hb dX6_find_7 (by decide +kernel) (fun c_5 => ?_) (fun c_5 => ?_)
  ·
    have i_5 : k_r.toInt ≥ e_n.toInt := g5_ge (a := k_r.toInt) (b := e_n.toInt) rfl rfl c_5
    refine lv_iconst (v := (-1)) hx hb dX6_find_28 (by decide +kernel) ?_
    exact W.iret (v := (-1)) hx hb hr (fun t ht hW => ⟨⟨(-1), [(a_t, (oc6 6 5 a_n e_n)), (a_n, (arI G 30 f_n))], rfl, Or.inl (⟨fun r h1 h2 => i_3 r h1 (by omega), rfl, rfl⟩), by rw [ht]; exact hP.sub [0, 1] rfl, hD.sub [0, 1] (by decide +kernel) rfl⟩, hS.F ht⟩) hS.2.2 dX6_find_29
  ·
    have i_5 : k_r.toInt < e_n.toInt := g5_geN (a := k_r.toInt) (b := e_n.toInt) rfl rfl c_5
    refine lv_aload_n hx hb dX6_find_10 rfl (lv_at hl 1 rfl) ?_
    refine lv_iload_n hx hb dX6_find_11 rfl (lv_at hl 0 rfl) ?_
    refine lv_iload_n hx hb dX6_find_12 rfl (lv_at hl 2 rfl) ?_
    obtain ⟨hPc, hDc, hFc⟩ := g5_sub3 (wc := [(a_t, (oc6 6 5 a_n e_n)), (a_n, (arI G 30 f_n))]) hP hD hS hA [0, 1] (by decide +kernel) rfl
    refine va_calli (va_runV (As := [.int k_r, .int p_c]) (rest := []) ⟨hx, hb, hml, hown, hts⟩ (t_get_G l G a_t a_n H.size e_n k_r p_c f_n h_e_n) (cwV 2 hts gV_X6_43 rfl rfl rfl hv_X6_get ⟨Nat.le_of_ble_eq_true rfl, Nat.le_of_ble_eq_true rfl⟩) (g5_preV hPc hK hDc hN hT hS hFc (ci := 6) (q0 := 0) rfl rfl) rfl rfl hl.1 rfl (lv_room (Nat.le_of_ble_eq_true rfl)) dX6_find_13 ⟨Nat.le_of_ble_eq_true rfl, Nat.le_of_ble_eq_true rfl⟩) hS (fun q _ h => hFc q h) hFc (fun r u t H locs ht hvm hw hB hz1 hk1 hS => ?_)
    obtain ⟨hP1, hD1⟩ := hB
    have hP1 := g5_ht ht hP1
    obtain ⟨z7, (i_6 : z7 = tget f_n e_n.toInt 5 k_r.toInt p_c.toInt), y8, rfl⟩ := hw
    have hJ9 := va_join (wr := []) hP hD [0, 1] [] rfl rfl (by decide +kernel) (by decide +kernel) hk1 hFc hP1 hD1
    clear hP hD hPc hDc hFc ht hvm hz1 hk1 hP1 hD1
    obtain ⟨hP, hD⟩ := hJ9
    refine g5_rs [(a_t, (oc6 6 5 a_n e_n)), (a_n, (arI G 30 f_n))] hP hD ?_
    clear hP hD
    intro hP hD
    refine g5_ti (v := z7) y8 ?_
    refine W.eq (g2 := F0 m 16 ls [.int z7]) rfl ?_
    refine lv_iload_n hx hb dX6_find_16 rfl (lv_at hl 3 rfl) ?_
    refine lv_icmp_ne (tgt := 22) hx hb dX6_find_17 (by decide +kernel) (fun c_9 => ?_) (fun c_9 => ?_)
    ·
      have n_9 : gNe (z7.toInt) (p_v.toInt) := g5_ne (a := z7.toInt) (b := p_v.toInt) rfl rfl c_9
      refine lv_iinc (v := (k_r + 1)) (lv' := [(3, .int (k_r + 1)), (0, .ref a_t), (1, .int p_c), (2, .int p_v)]) hx hb dX6_find_22 hl (k := 0) rfl rfl (by decide +kernel) rfl ?_
      clear hl
      intro ls hl
      have t_10 : (k_r + 1).toInt = k_r.toInt + 1 := g5_iadd (a := k_r.toInt) (b := 1) rfl (by decide +kernel) (by omega) (by omega)
      refine lv_goto (tgt := 2) hx hb dX6_find_25 (by decide +kernel) ?_
      exact ih_2_4 (k_r + 1) ls H locs (show Int.toNat (6 - (k_r + 1).toInt) < Int.toNat (6 - k_r.toInt) from g_up (show k_r.toInt < (k_r + 1).toInt by omega) (show k_r.toInt < 6 by omega)) ⟨lv_sub hl [0, 1, 2, 3] rfl, hP, hD, hS, ⟨by omega, by omega⟩, by omega, fun r h1 h2 => by rcases (show r < k_r.toInt ∨ r = k_r.toInt by omega) with q | q; exact i_3 r h1 q; rw [q, ← i_6]; intro q2; rw [q2] at n_9; exact absurd rfl n_9⟩
    ·
      have i_9 : z7.toInt = p_v.toInt := g5_neN (a := z7.toInt) (b := p_v.toInt) rfl rfl c_9
      refine lv_iload_n hx hb dX6_find_20 rfl (lv_at hl 0 rfl) ?_
      exact W.iret (v := k_r) hx hb hr (fun t ht hW => ⟨⟨k_r, [(a_t, (oc6 6 5 a_n e_n)), (a_n, (arI G 30 f_n))], rfl, Or.inr (⟨k_r, ⟨by omega, by omega⟩, by rw [← i_6]; exact Int32.toInt_inj.mp (by omega), rfl, rfl⟩), by rw [ht]; exact hP.sub [0, 1] rfl, hD.sub [0, 1] (by decide +kernel) rfl⟩, hS.F ht⟩) hS.2.2 dX6_find_21
set_option maxHeartbeats 4000000 in
set_option maxRecDepth 100000 in
theorem t_has_B (l : Launch) (G : g5_G) (a_t a_n : Nat) (sz : Nat) (e_n : Int32) (p_r : Int32) (h_e_n : 0 ≤ e_n.toInt ∧ e_n.toInt ≤ 5) : Met l yX6_has (wsG yX6_has cX6_has 2 (some .boolean)) ({ frames := 0, cells := 0, slots := 0, locals := 0 }) (va_Pc [.ref a_t, .int p_r] (g5_P G [(a_t, (oc6 5 24 a_n e_n))] sz)) (va_Qi (fun (r : Int32) (u : va_W) => ((0 ≤ p_r.toInt ∧ p_r.toInt < e_n.toInt) ∧ (r = 1) ∧ (u = [(a_t, (oc6 5 24 a_n e_n))])) ∨ ((p_r.toInt < 0 ∨ e_n.toInt ≤ p_r.toInt) ∧ (r = 0) ∧ (u = [(a_t, (oc6 5 24 a_n e_n))]))) (g5_B G (va_A [(a_t, (oc6 5 24 a_n e_n))] sz)) (va_A [(a_t, (oc6 5 24 a_n e_n))] sz)) 0 0 (va_A [(a_t, (oc6 5 24 a_n e_n))] sz) := by
  refine Met.ofW (cc := cX6_has) (maxL := 2) (ret := (some .boolean)) (by decide) rfl ?_
  intro p e s m args below meth c s₁ B hml hv
  obtain ⟨rfl, hsz, hP, hK, hD0, hN, hT⟩ := hv
  have hx := B.exec
  have hb := B.bytes
  have hr := B.returns
  have hts : ∀ w ∈ tblG, w.before _ s = true := fun w h => atoms_spec (ws := (wsG yX6_has cX6_has 2 (some .boolean))) B.pre w (List.mem_cons_of_mem _ h)
  have hown : s.vm.findClass RX6 = some m.cls := findClass_of_methodNamed B.named
  have hlocks := B.notSynchronized
  subst hsz
  have hD := hD0.self (sz := s.heap.size)
  generalize hAe : va_A [(a_t, (oc6 5 24 a_n e_n))] s.heap.size = A at hD hT ⊢
  have hA : ∀ q : Nat, s.heap.size ≤ q → A q := fun q h => by rw [← hAe]; exact Or.inr h
  have hS : va_S A s.heap s.heap [] := va_S.rf
  have hP : va_P G.1 vwCl [(a_t, (oc6 5 24 a_n e_n))] s.heap := hP
  have hl := lv_entry ([.ref a_t, .int p_r]) (n := 2) (Nat.le_of_ble_eq_true rfl)
  rw [lg_entry_eq]
  generalize (lg_sl ([.ref a_t, .int p_r]) ++ List.replicate (2 - (lg_sl ([.ref a_t, .int p_r])).length) Slot.unset).toArray = ls at hl ⊢
  have hl : lv_has ls 2 [(0, .ref a_t), (1, .int p_r)] := hl
  refine lv_iload_n hx hb dX6_has_0 rfl (lv_at hl 1 rfl) ?_
  refine lv_if_lt (tgt := 16) hx hb dX6_has_1 (by decide) (fun c_1 => ?_) (fun c_1 => ?_)
  ·
    have i_1 : p_r.toInt < 0 := by have z := g5_lt (a := p_r.toInt) (b := 0) (by rfl) (by decide) c_1; omega
    refine lv_iconst (v := 0) hx hb dX6_has_16 (by decide) ?_
    exact W.zret (v := 0) hx hb hr rfl (fun t ht hW => ⟨⟨0, [(a_t, (oc6 5 24 a_n e_n))], rfl, Or.inr (⟨by omega, rfl, rfl⟩), by rw [ht]; exact hP.sub [0] rfl, hD.sub [0] (by decide) rfl⟩, hS.F ht⟩) hS.2.2 dX6_has_17
  ·
    have i_1 : p_r.toInt ≥ 0 := by have z := g5_ltN (a := p_r.toInt) (b := 0) (by rfl) (by decide) c_1; omega
    refine lv_iload_n hx hb dX6_has_4 rfl (lv_at hl 1 rfl) ?_
    refine lv_aload_n hx hb dX6_has_5 rfl (lv_at hl 0 rfl) ?_
    refine va_get (D := G.1) (ci := 6) (v := .int e_n) (C := RX6) (T := TX6) (N := 4) hx hb hts inG_X6 hown hK hP 0 rfl rfl 3 (by decide) (hts _ fl_X6_9) (fun _ h9 => h9) rfl dX6_has_6 ?_
    refine lv_icmp_ge (tgt := 16) hx hb dX6_has_9 (by decide) (fun c_2 => ?_) (fun c_2 => ?_)
    ·
      have i_2 : p_r.toInt ≥ e_n.toInt := by have z := g5_ge (a := p_r.toInt) (b := e_n.toInt) (by rfl) (by rfl) c_2; omega
      refine lv_iconst (v := 0) hx hb dX6_has_16 (by decide) ?_
      exact W.zret (v := 0) hx hb hr rfl (fun t ht hW => ⟨⟨0, [(a_t, (oc6 5 24 a_n e_n))], rfl, Or.inr (⟨by omega, rfl, rfl⟩), by rw [ht]; exact hP.sub [0] rfl, hD.sub [0] (by decide) rfl⟩, hS.F ht⟩) hS.2.2 dX6_has_17
    ·
      have i_2 : p_r.toInt < e_n.toInt := by have z := g5_geN (a := p_r.toInt) (b := e_n.toInt) (by rfl) (by rfl) c_2; omega
      refine lv_iconst (v := 1) hx hb dX6_has_12 (by decide) ?_
      refine lv_goto (tgt := 17) hx hb dX6_has_13 (by decide) ?_
      exact W.zret (v := 1) hx hb hr rfl (fun t ht hW => ⟨⟨1, [(a_t, (oc6 5 24 a_n e_n))], rfl, Or.inl (⟨by omega, rfl, rfl⟩), by rw [ht]; exact hP.sub [0] rfl, hD.sub [0] (by decide) rfl⟩, hS.F ht⟩) hS.2.2 dX6_has_17
set_option maxHeartbeats 4000000 in
set_option maxRecDepth 100000 in
theorem t_isFull_B (l : Launch) (G : g5_G) (a_t a_n : Nat) (sz : Nat) (e_n : Int32) (h_e_n : 0 ≤ e_n.toInt ∧ e_n.toInt ≤ 5) : Met l yX6_isFull (wsG yX6_isFull cX6_isFull 1 (some .boolean)) ({ frames := 0, cells := 0, slots := 0, locals := 0 }) (va_Pc [.ref a_t] (g5_P G [(a_t, (oc6 5 24 a_n e_n))] sz)) (va_Qi (fun (r : Int32) (u : va_W) => ((e_n.toInt = 5) ∧ (r = 1) ∧ (u = [(a_t, (oc6 5 24 a_n e_n))])) ∨ ((e_n.toInt < 5) ∧ (r = 0) ∧ (u = [(a_t, (oc6 5 24 a_n e_n))]))) (g5_B G (va_A [(a_t, (oc6 5 24 a_n e_n))] sz)) (va_A [(a_t, (oc6 5 24 a_n e_n))] sz)) 0 0 (va_A [(a_t, (oc6 5 24 a_n e_n))] sz) := by
  refine Met.ofW (cc := cX6_isFull) (maxL := 1) (ret := (some .boolean)) (by decide) rfl ?_
  intro p e s m args below meth c s₁ B hml hv
  obtain ⟨rfl, hsz, hP, hK, hD0, hN, hT⟩ := hv
  have hx := B.exec
  have hb := B.bytes
  have hr := B.returns
  have hts : ∀ w ∈ tblG, w.before _ s = true := fun w h => atoms_spec (ws := (wsG yX6_isFull cX6_isFull 1 (some .boolean))) B.pre w (List.mem_cons_of_mem _ h)
  have hown : s.vm.findClass RX6 = some m.cls := findClass_of_methodNamed B.named
  have hlocks := B.notSynchronized
  subst hsz
  have hD := hD0.self (sz := s.heap.size)
  generalize hAe : va_A [(a_t, (oc6 5 24 a_n e_n))] s.heap.size = A at hD hT ⊢
  have hA : ∀ q : Nat, s.heap.size ≤ q → A q := fun q h => by rw [← hAe]; exact Or.inr h
  have hS : va_S A s.heap s.heap [] := va_S.rf
  have hP : va_P G.1 vwCl [(a_t, (oc6 5 24 a_n e_n))] s.heap := hP
  have hl := lv_entry ([.ref a_t]) (n := 1) (Nat.le_of_ble_eq_true rfl)
  rw [lg_entry_eq]
  generalize (lg_sl ([.ref a_t]) ++ List.replicate (1 - (lg_sl ([.ref a_t])).length) Slot.unset).toArray = ls at hl ⊢
  have hl : lv_has ls 1 [(0, .ref a_t)] := hl
  refine lv_aload_n hx hb dX6_isFull_0 rfl (lv_at hl 0 rfl) ?_
  refine va_get (D := G.1) (ci := 6) (v := .int e_n) (C := RX6) (T := TX6) (N := 4) hx hb hts inG_X6 hown hK hP 0 rfl rfl 3 (by decide) (hts _ fl_X6_9) (fun _ h9 => h9) rfl dX6_isFull_1 ?_
  refine lv_aload_n hx hb dX6_isFull_4 rfl (lv_at hl 0 rfl) ?_
  refine va_get (D := G.1) (ci := 6) (v := .int 5) (C := RX6) (T := TX6) (N := 4) hx hb hts inG_X6 hown hK hP 0 rfl rfl 0 (by decide) (hts _ fl_X6_15) (fun _ h9 => h9) rfl dX6_isFull_5 ?_
  refine W.eq (g2 := F0 m 8 ls [.int 5, .int e_n]) rfl ?_
  refine lv_icmp_lt (tgt := 15) hx hb dX6_isFull_8 (by decide) (fun c_1 => ?_) (fun c_1 => ?_)
  ·
    have i_1 : e_n.toInt < 5 := by have z := g5_lt (a := e_n.toInt) (b := 5) (by rfl) (by decide) c_1; omega
    refine lv_iconst (v := 0) hx hb dX6_isFull_15 (by decide) ?_
    exact W.zret (v := 0) hx hb hr rfl (fun t ht hW => ⟨⟨0, [(a_t, (oc6 5 24 a_n e_n))], rfl, Or.inr (⟨by omega, rfl, rfl⟩), by rw [ht]; exact hP.sub [0] rfl, hD.sub [0] (by decide) rfl⟩, hS.F ht⟩) hS.2.2 dX6_isFull_16
  ·
    have i_1 : e_n.toInt ≥ 5 := by have z := g5_ltN (a := e_n.toInt) (b := 5) (by rfl) (by decide) c_1; omega
    refine lv_iconst (v := 1) hx hb dX6_isFull_11 (by decide) ?_
    refine lv_goto (tgt := 16) hx hb dX6_isFull_12 (by decide) ?_
    exact W.zret (v := 1) hx hb hr rfl (fun t ht hW => ⟨⟨1, [(a_t, (oc6 5 24 a_n e_n))], rfl, Or.inl (⟨by omega, rfl, rfl⟩), by rw [ht]; exact hP.sub [0] rfl, hD.sub [0] (by decide) rfl⟩, hS.F ht⟩) hS.2.2 dX6_isFull_16
set_option maxHeartbeats 4000000 in
set_option maxRecDepth 100000 in
theorem t_get_B (l : Launch) (G : g5_G) (a_t a_n : Nat) (sz : Nat) (e_n : Int32) (p_r : Int32) (p_c : Int32) (f_n : Nat → Int32) (h_e_n : 0 ≤ e_n.toInt ∧ e_n.toInt ≤ 5) : Met l yX6_get (wsG yX6_get cX6_get 3 (some .int)) ({ frames := 0, cells := 0, slots := 0, locals := 0 }) (va_Pc [.ref a_t, .int p_r, .int p_c] (g5_P G [(a_t, (oc6 5 24 a_n e_n)), (a_n, (arI G 120 f_n))] sz)) (va_Qi (fun (r : Int32) (u : va_W) => (∃ (o_r : Int32), (o_r = tget f_n e_n.toInt 24 p_r.toInt p_c.toInt) ∧ (r = o_r) ∧ (u = [(a_t, (oc6 5 24 a_n e_n)), (a_n, (arI G 120 f_n))]))) (g5_B G (va_A [(a_t, (oc6 5 24 a_n e_n)), (a_n, (arI G 120 f_n))] sz)) (va_A [(a_t, (oc6 5 24 a_n e_n)), (a_n, (arI G 120 f_n))] sz)) 0 0 (va_A [(a_t, (oc6 5 24 a_n e_n)), (a_n, (arI G 120 f_n))] sz) := by
  refine Met.ofW (cc := cX6_get) (maxL := 3) (ret := (some .int)) (by decide) rfl ?_
  intro p e s m args below meth c s₁ B hml hv
  obtain ⟨rfl, hsz, hP, hK, hD0, hN, hT⟩ := hv
  have hx := B.exec
  have hb := B.bytes
  have hr := B.returns
  have hts : ∀ w ∈ tblG, w.before _ s = true := fun w h => atoms_spec (ws := (wsG yX6_get cX6_get 3 (some .int))) B.pre w (List.mem_cons_of_mem _ h)
  have hown : s.vm.findClass RX6 = some m.cls := findClass_of_methodNamed B.named
  have hlocks := B.notSynchronized
  subst hsz
  have hD := hD0.self (sz := s.heap.size)
  generalize hAe : va_A [(a_t, (oc6 5 24 a_n e_n)), (a_n, (arI G 120 f_n))] s.heap.size = A at hD hT ⊢
  have hA : ∀ q : Nat, s.heap.size ≤ q → A q := fun q h => by rw [← hAe]; exact Or.inr h
  have hS : va_S A s.heap s.heap [] := va_S.rf
  have hP : va_P G.1 vwCl [(a_t, (oc6 5 24 a_n e_n)), (a_n, (arI G 120 f_n))] s.heap := hP
  have hl := lv_entry ([.ref a_t, .int p_r, .int p_c]) (n := 3) (Nat.le_of_ble_eq_true rfl)
  rw [lg_entry_eq]
  generalize (lg_sl ([.ref a_t, .int p_r, .int p_c]) ++ List.replicate (3 - (lg_sl ([.ref a_t, .int p_r, .int p_c])).length) Slot.unset).toArray = ls at hl ⊢
  have hl : lv_has ls 3 [(0, .ref a_t), (1, .int p_r), (2, .int p_c)] := hl
  refine lv_iload_n hx hb dX6_get_0 rfl (lv_at hl 1 rfl) ?_
  refine lv_if_lt (tgt := 24) hx hb dX6_get_1 (by decide) (fun c_1 => ?_) (fun c_1 => ?_)
  ·
    have i_1 : p_r.toInt < 0 := by have z := g5_lt (a := p_r.toInt) (b := 0) (by rfl) (by decide) c_1; omega
    refine lv_iconst (v := (-1)) hx hb dX6_get_24 (by decide) ?_
    exact W.iret (v := (-1)) hx hb hr (fun t ht hW => ⟨⟨(-1), [(a_t, (oc6 5 24 a_n e_n)), (a_n, (arI G 120 f_n))], rfl, ⟨(-1), qt_getN (by omega), rfl, rfl⟩, by rw [ht]; exact hP.sub [0, 1] rfl, hD.sub [0, 1] (by decide) rfl⟩, hS.F ht⟩) hS.2.2 dX6_get_25
  ·
    have i_1 : p_r.toInt ≥ 0 := by have z := g5_ltN (a := p_r.toInt) (b := 0) (by rfl) (by decide) c_1; omega
    refine lv_iload_n hx hb dX6_get_4 rfl (lv_at hl 1 rfl) ?_
    refine lv_aload_n hx hb dX6_get_5 rfl (lv_at hl 0 rfl) ?_
    refine va_get (D := G.1) (ci := 6) (v := .int e_n) (C := RX6) (T := TX6) (N := 4) hx hb hts inG_X6 hown hK hP 0 rfl rfl 3 (by decide) (hts _ fl_X6_9) (fun _ h9 => h9) rfl dX6_get_6 ?_
    refine lv_icmp_ge (tgt := 24) hx hb dX6_get_9 (by decide) (fun c_2 => ?_) (fun c_2 => ?_)
    ·
      have i_2 : p_r.toInt ≥ e_n.toInt := by have z := g5_ge (a := p_r.toInt) (b := e_n.toInt) (by rfl) (by rfl) c_2; omega
      refine lv_iconst (v := (-1)) hx hb dX6_get_24 (by decide) ?_
      exact W.iret (v := (-1)) hx hb hr (fun t ht hW => ⟨⟨(-1), [(a_t, (oc6 5 24 a_n e_n)), (a_n, (arI G 120 f_n))], rfl, ⟨(-1), qt_getN (by omega), rfl, rfl⟩, by rw [ht]; exact hP.sub [0, 1] rfl, hD.sub [0, 1] (by decide) rfl⟩, hS.F ht⟩) hS.2.2 dX6_get_25
    ·
      have i_2 : p_r.toInt < e_n.toInt := by have z := g5_geN (a := p_r.toInt) (b := e_n.toInt) (by rfl) (by rfl) c_2; omega
      refine lv_iload_n hx hb dX6_get_12 rfl (lv_at hl 2 rfl) ?_
      refine lv_if_lt (tgt := 24) hx hb dX6_get_13 (by decide) (fun c_3 => ?_) (fun c_3 => ?_)
      ·
        have i_3 : p_c.toInt < 0 := by have z := g5_lt (a := p_c.toInt) (b := 0) (by rfl) (by decide) c_3; omega
        refine lv_iconst (v := (-1)) hx hb dX6_get_24 (by decide) ?_
        exact W.iret (v := (-1)) hx hb hr (fun t ht hW => ⟨⟨(-1), [(a_t, (oc6 5 24 a_n e_n)), (a_n, (arI G 120 f_n))], rfl, ⟨(-1), qt_getN (by omega), rfl, rfl⟩, by rw [ht]; exact hP.sub [0, 1] rfl, hD.sub [0, 1] (by decide) rfl⟩, hS.F ht⟩) hS.2.2 dX6_get_25
      ·
        have i_3 : p_c.toInt ≥ 0 := by have z := g5_ltN (a := p_c.toInt) (b := 0) (by rfl) (by decide) c_3; omega
        refine lv_iload_n hx hb dX6_get_16 rfl (lv_at hl 2 rfl) ?_
        refine lv_aload_n hx hb dX6_get_17 rfl (lv_at hl 0 rfl) ?_
        refine va_get (D := G.1) (ci := 6) (v := .int 24) (C := RX6) (T := TX6) (N := 4) hx hb hts inG_X6 hown hK hP 0 rfl rfl 1 (by decide) (hts _ fl_X6_18) (fun _ h9 => h9) rfl dX6_get_18 ?_
        refine lv_icmp_lt (tgt := 26) hx hb dX6_get_21 (by decide) (fun c_4 => ?_) (fun c_4 => ?_)
        ·
          have i_4 : p_c.toInt < 24 := by have z := g5_lt (a := p_c.toInt) (b := 24) (by rfl) (by decide) c_4; omega
          refine lv_aload_n hx hb dX6_get_26 rfl (lv_at hl 0 rfl) ?_
          refine va_get (D := G.1) (ci := 6) (v := .ref a_n) (C := RX6) (T := TX6) (N := 4) hx hb hts inG_X6 hown hK hP 0 rfl rfl 2 (by decide) (hts _ fl_X6_21) (fun _ h9 => h9) rfl dX6_get_27 ?_
          refine lv_iload_n hx hb dX6_get_30 rfl (lv_at hl 1 rfl) ?_
          refine lv_aload_n hx hb dX6_get_31 rfl (lv_at hl 0 rfl) ?_
          refine W.eq (g2 := F0 m 32 ls [.ref a_t, .int p_r, .ref a_n]) rfl ?_
          refine va_get (D := G.1) (ci := 6) (v := .int 24) (C := RX6) (T := TX6) (N := 4) hx hb hts inG_X6 hown hK hP 0 rfl rfl 1 (by decide) (hts _ fl_X6_18) (fun _ h9 => h9) rfl dX6_get_32 ?_
          refine lv_imul hx hb dX6_get_35 ?_
          have t_5 : (p_r * 24).toInt = p_r.toInt * 24 := g5_imul (a := p_r.toInt) (b := 24) (by rfl) (by decide) (by omega) (by omega)
          refine lv_iload_n hx hb dX6_get_36 rfl (lv_at hl 2 rfl) ?_
          refine lv_iadd hx hb dX6_get_37 ?_
          have t_6 : ((p_r * 24) + p_c).toInt = (p_r * 24).toInt + p_c.toInt := g5_iadd (a := (p_r * 24).toInt) (b := p_c.toInt) (by rfl) (by rfl) (by omega) (by omega)
          refine va_iald hx hb hK hP 1 0 rfl rfl (i := ((p_r * 24) + p_c)) (vp_in_iff.mpr ⟨by omega, by omega⟩) dX6_get_38 ?_
          refine W.eq (g2 := F0 m 39 ls [.int (f_n ((p_r * 24) + p_c).toNatClampNeg)]) rfl ?_
          exact W.iret (v := (f_n ((p_r * 24) + p_c).toNatClampNeg)) hx hb hr (fun t ht hW => ⟨⟨(f_n ((p_r * 24) + p_c).toNatClampNeg), [(a_t, (oc6 5 24 a_n e_n)), (a_n, (arI G 120 f_n))], rfl, ⟨(f_n ((p_r * 24) + p_c).toNatClampNeg), qt_get (x := ((p_r * 24) + p_c)) (by omega) (by omega), rfl, rfl⟩, by rw [ht]; exact hP.sub [0, 1] rfl, hD.sub [0, 1] (by decide) rfl⟩, hS.F ht⟩) hS.2.2 dX6_get_39
        ·
          have i_4 : p_c.toInt ≥ 24 := by have z := g5_ltN (a := p_c.toInt) (b := 24) (by rfl) (by decide) c_4; omega
          refine lv_iconst (v := (-1)) hx hb dX6_get_24 (by decide) ?_
          exact W.iret (v := (-1)) hx hb hr (fun t ht hW => ⟨⟨(-1), [(a_t, (oc6 5 24 a_n e_n)), (a_n, (arI G 120 f_n))], rfl, ⟨(-1), qt_getN (by omega), rfl, rfl⟩, by rw [ht]; exact hP.sub [0, 1] rfl, hD.sub [0, 1] (by decide) rfl⟩, hS.F ht⟩) hS.2.2 dX6_get_25
set_option maxHeartbeats 4000000 in
set_option maxRecDepth 100000 in
theorem t_set_B (l : Launch) (G : g5_G) (a_t a_n : Nat) (sz : Nat) (e_n : Int32) (p_r : Int32) (p_c : Int32) (p_v : Int32) (f_n : Nat → Int32) (h_e_n : 0 ≤ e_n.toInt ∧ e_n.toInt ≤ 5) : Met l yX6_set (wsG yX6_set cX6_set 4 none) ({ frames := 1, cells := 0, slots := 0, locals := 21 }) (va_Pc [.ref a_t, .int p_r, .int p_c, .int p_v] (g5_P G [(a_t, (oc6 5 24 a_n e_n)), (a_n, (arI G 120 f_n))] sz)) (va_Qv (fun (u : va_W) => (∃ (o_f : Nat → Int32), (o_f = tset f_n e_n.toInt 24 p_r.toInt p_c.toInt p_v) ∧ (u = [(a_t, (oc6 5 24 a_n e_n)), (a_n, (arI G 120 o_f))]))) (g5_B G (va_A [(a_t, (oc6 5 24 a_n e_n)), (a_n, (arI G 120 f_n))] sz)) (va_A [(a_t, (oc6 5 24 a_n e_n)), (a_n, (arI G 120 f_n))] sz)) 0 0 (va_A [(a_t, (oc6 5 24 a_n e_n)), (a_n, (arI G 120 f_n))] sz) := by
  refine Met.ofW (cc := cX6_set) (maxL := 4) (ret := none) (by decide +kernel) rfl ?_
  intro p e s m args below meth c s₁ B hml hv
  obtain ⟨rfl, hsz, hP, hK, hD0, hN, hT⟩ := hv
  have hx := B.exec
  have hb := B.bytes
  have hr := B.returns
  have hts : ∀ w ∈ tblG, w.before _ s = true := fun w h => atoms_spec (ws := (wsG yX6_set cX6_set 4 none)) B.pre w (List.mem_cons_of_mem _ h)
  have hown : s.vm.findClass RX6 = some m.cls := findClass_of_methodNamed B.named
  have hlocks := B.notSynchronized
  subst hsz
  have hD := hD0.self (sz := s.heap.size)
  generalize hAe : va_A [(a_t, (oc6 5 24 a_n e_n)), (a_n, (arI G 120 f_n))] s.heap.size = A at hD hT ⊢
  have hA : ∀ q : Nat, s.heap.size ≤ q → A q := fun q h => by rw [← hAe]; exact Or.inr h
  have hS : va_S A s.heap s.heap [] := va_S.rf
  replace hP : va_P G.1 vwCl [(a_t, (oc6 5 24 a_n e_n)), (a_n, (arI G 120 f_n))] s.heap := hP
  have hl := lv_entry ([.ref a_t, .int p_r, .int p_c, .int p_v]) (n := 4) (Nat.le_of_ble_eq_true rfl)
  rw [lg_entry_eq]
  generalize (lg_sl ([.ref a_t, .int p_r, .int p_c, .int p_v]) ++ List.replicate (4 - (lg_sl ([.ref a_t, .int p_r, .int p_c, .int p_v])).length) Slot.unset).toArray = ls at hl ⊢
  replace hl : lv_has ls 4 [(0, .ref a_t), (1, .int p_r), (2, .int p_c), (3, .int p_v)] := hl
  refine lv_aload_n hx hb dX6_set_0 rfl (lv_at hl 0 rfl) ?_
  refine lv_iload_n hx hb dX6_set_1 rfl (lv_at hl 1 rfl) ?_
  obtain ⟨hPc, hDc, hFc⟩ := g5_sub3 (wc := [(a_t, (oc6 5 24 a_n e_n))]) hP hD hS hA [0] (by decide +kernel) rfl
  refine va_calli (va_runV (As := [.int p_r]) (rest := []) ⟨hx, hb, hml, hown, hts⟩ (t_has_B l G a_t a_n s.heap.size e_n p_r h_e_n) (cwV 1 hts gV_X6_25 rfl rfl rfl hv_X6_has ⟨Nat.le_of_ble_eq_true rfl, Nat.le_of_ble_eq_true rfl⟩) (g5_preV hPc hK hDc hN hT hS hFc (ci := 6) (q0 := 0) rfl rfl) rfl rfl hl.1 rfl (lv_room (Nat.le_of_ble_eq_true rfl)) dX6_set_2 ⟨Nat.le_of_ble_eq_true rfl, Nat.le_of_ble_eq_true rfl⟩) hS (fun q _ h => hFc q h) hFc (fun r u t H locs ht hvm hw hB hz1 hk1 hS => ?_)
  obtain ⟨hP1, hD1⟩ := hB
  have hP1 := g5_ht ht hP1
  rcases hw with ⟨(i_1 : 0 ≤ p_r.toInt ∧ p_r.toInt < e_n.toInt), rfl, rfl⟩ | ⟨(i_2 : p_r.toInt < 0 ∨ e_n.toInt ≤ p_r.toInt), rfl, rfl⟩
  ·
    have hJ9 := va_join (wr := [(a_n, (arI G 120 f_n))]) hP hD [0] [1] rfl rfl (by decide +kernel) (by decide +kernel) hk1 hFc hP1 hD1
    clear hP hD hPc hDc hFc ht hvm hz1 hk1 hP1 hD1
    obtain ⟨hP, hD⟩ := hJ9
    refine g5_rs [(a_n, (arI G 120 f_n)), (a_t, (oc6 5 24 a_n e_n))] hP hD ?_
    clear hP hD
    intro hP hD
    refine lv_if_eq (tgt := 34) hx hb dX6_set_5 (by decide +kernel) (fun c_3 => ?_) (fun c_3 => ?_)
    ·
      exact absurd c_3 (by decide +kernel)
    ·
      refine lv_iload_n hx hb dX6_set_8 rfl (lv_at hl 2 rfl) ?_
      refine lv_if_lt (tgt := 34) hx hb dX6_set_9 (by decide +kernel) (fun c_4 => ?_) (fun c_4 => ?_)
      ·
        have i_4 : p_c.toInt < 0 := g5_lt (a := p_c.toInt) (b := 0) rfl (by decide +kernel) c_4
        exact W.vret hx hb hr (fun t ht hW => ⟨⟨[(a_t, (oc6 5 24 a_n e_n)), (a_n, (arI G 120 f_n))], rfl, ⟨f_n, qt_setN (by omega), rfl⟩, by rw [ht]; exact hP.sub [1, 0] rfl, hD.sub [1, 0] (by decide +kernel) rfl⟩, hS.F ht⟩) hS.2.2 dX6_set_34
      ·
        have i_4 : p_c.toInt ≥ 0 := g5_ltN (a := p_c.toInt) (b := 0) rfl (by decide +kernel) c_4
        refine lv_iload_n hx hb dX6_set_12 rfl (lv_at hl 2 rfl) ?_
        refine lv_aload_n hx hb dX6_set_13 rfl (lv_at hl 0 rfl) ?_
        refine va_get (D := G.1) (ci := 6) (v := .int 24) (C := RX6) (T := TX6) (N := 4) hx hb hts inG_X6 hown hK hP 1 rfl rfl 1 (by decide +kernel) (hts _ fl_X6_18) (fun _ h9 => h9) rfl dX6_set_14 ?_
        refine lv_icmp_ge (tgt := 34) hx hb dX6_set_17 (by decide +kernel) (fun c_5 => ?_) (fun c_5 => ?_)
        ·
          have i_5 : p_c.toInt ≥ 24 := g5_ge (a := p_c.toInt) (b := 24) rfl (by decide +kernel) c_5
          exact W.vret hx hb hr (fun t ht hW => ⟨⟨[(a_t, (oc6 5 24 a_n e_n)), (a_n, (arI G 120 f_n))], rfl, ⟨f_n, qt_setN (by omega), rfl⟩, by rw [ht]; exact hP.sub [1, 0] rfl, hD.sub [1, 0] (by decide +kernel) rfl⟩, hS.F ht⟩) hS.2.2 dX6_set_34
        ·
          have i_5 : p_c.toInt < 24 := g5_geN (a := p_c.toInt) (b := 24) rfl (by decide +kernel) c_5
          refine lv_aload_n hx hb dX6_set_20 rfl (lv_at hl 0 rfl) ?_
          refine va_get (D := G.1) (ci := 6) (v := .ref a_n) (C := RX6) (T := TX6) (N := 4) hx hb hts inG_X6 hown hK hP 1 rfl rfl 2 (by decide +kernel) (hts _ fl_X6_21) (fun _ h9 => h9) rfl dX6_set_21 ?_
          refine lv_iload_n hx hb dX6_set_24 rfl (lv_at hl 1 rfl) ?_
          refine lv_aload_n hx hb dX6_set_25 rfl (lv_at hl 0 rfl) ?_
          refine W.eq (g2 := F0 m 26 ls [.ref a_t, .int p_r, .ref a_n]) rfl ?_
          refine va_get (D := G.1) (ci := 6) (v := .int 24) (C := RX6) (T := TX6) (N := 4) hx hb hts inG_X6 hown hK hP 1 rfl rfl 1 (by decide +kernel) (hts _ fl_X6_18) (fun _ h9 => h9) rfl dX6_set_26 ?_
          refine lv_imul hx hb dX6_set_29 ?_
          have t_6 : (p_r * 24).toInt = p_r.toInt * 24 := g5_imul (a := p_r.toInt) (b := 24) (by rfl) (by decide +kernel) (by omega) (by omega)
          refine lv_iload_n hx hb dX6_set_30 rfl (lv_at hl 2 rfl) ?_
          refine lv_iadd hx hb dX6_set_31 ?_
          have t_7 : ((p_r * 24) + p_c).toInt = (p_r * 24).toInt + p_c.toInt := g5_iadd (a := (p_r * 24).toInt) (b := p_c.toInt) (by rfl) (by rfl) (by omega) (by omega)
          refine lv_iload_n hx hb dX6_set_32 rfl (lv_at hl 3 rfl) ?_
          refine W.eq (g2 := F0 m 33 ls [.int p_v, .int ((p_r * 24) + p_c), .ref a_n]) rfl ?_
          refine va_iast hx hb hK hP hD hS 0 0 rfl rfl (i := ((p_r * 24) + p_c)) (x := p_v) (vp_in_iff.mpr ⟨by omega, by omega⟩) dX6_set_33 ?_
          clear hP hD hS
          intro H locs hP hD hS
          refine g5_rs [(a_n, (arI G 120 (upd f_n ((p_r * 24) + p_c).toNatClampNeg p_v))), (a_t, (oc6 5 24 a_n e_n))] hP hD ?_
          clear hP hD
          intro hP hD
          exact W.vret hx hb hr (fun t ht hW => ⟨⟨[(a_t, (oc6 5 24 a_n e_n)), (a_n, (arI G 120 (upd f_n ((p_r * 24) + p_c).toNatClampNeg p_v)))], rfl, ⟨(upd f_n ((p_r * 24) + p_c).toNatClampNeg p_v), qt_set (x := ((p_r * 24) + p_c)) (by omega) (by omega), rfl⟩, by rw [ht]; exact hP.sub [1, 0] rfl, hD.sub [1, 0] (by decide +kernel) rfl⟩, hS.F ht⟩) hS.2.2 dX6_set_34
  ·
    have hJ9 := va_join (wr := [(a_n, (arI G 120 f_n))]) hP hD [0] [1] rfl rfl (by decide +kernel) (by decide +kernel) hk1 hFc hP1 hD1
    clear hP hD hPc hDc hFc ht hvm hz1 hk1 hP1 hD1
    obtain ⟨hP, hD⟩ := hJ9
    refine g5_rs [(a_n, (arI G 120 f_n)), (a_t, (oc6 5 24 a_n e_n))] hP hD ?_
    clear hP hD
    intro hP hD
    refine lv_if_eq (tgt := 34) hx hb dX6_set_5 (by decide +kernel) (fun c_8 => ?_) (fun c_8 => ?_)
    ·
      exact W.vret hx hb hr (fun t ht hW => ⟨⟨[(a_t, (oc6 5 24 a_n e_n)), (a_n, (arI G 120 f_n))], rfl, ⟨f_n, qt_setN (by omega), rfl⟩, by rw [ht]; exact hP.sub [1, 0] rfl, hD.sub [1, 0] (by decide +kernel) rfl⟩, hS.F ht⟩) hS.2.2 dX6_set_34
    ·
      exact absurd c_8 (by decide +kernel)
set_option maxHeartbeats 4000000 in
set_option maxRecDepth 100000 in
theorem t_open_B (l : Launch) (G : g5_G) (a_t a_n : Nat) (sz : Nat) (e_n : Int32) (p_v : Int32) (f_n : Nat → Int32) (h_e_n : 0 ≤ e_n.toInt ∧ e_n.toInt ≤ 5) : Met l yX6_open (wsG yX6_open cX6_open 4 (some .int)) ({ frames := 2, cells := 0, slots := 0, locals := 44 }) (va_Pc [.ref a_t, .int p_v] (g5_P G [(a_t, (oc6 5 24 a_n e_n)), (a_n, (arI G 120 f_n))] sz)) (va_Qi (fun (r : Int32) (u : va_W) => ((e_n.toInt = 5) ∧ (r = (-1)) ∧ (u = [(a_t, (oc6 5 24 a_n e_n)), (a_n, (arI G 120 f_n))])) ∨ (∃ (o_f : Nat → Int32), (e_n.toInt < 5) ∧ ((e_n + 1).toInt = e_n.toInt + 1) ∧ (o_f = tfil f_n e_n.toInt 24 p_v 24) ∧ (r = e_n) ∧ (u = [(a_t, (oc6 5 24 a_n (e_n + 1))), (a_n, (arI G 120 o_f))]))) (g5_B G (va_A [(a_t, (oc6 5 24 a_n e_n)), (a_n, (arI G 120 f_n))] sz)) (va_A [(a_t, (oc6 5 24 a_n e_n)), (a_n, (arI G 120 f_n))] sz)) 0 0 (va_A [(a_t, (oc6 5 24 a_n e_n)), (a_n, (arI G 120 f_n))] sz) := by
  refine Met.ofW (cc := cX6_open) (maxL := 4) (ret := (some .int)) (by decide +kernel) rfl ?_
  intro p e s m args below meth c s₁ B hml hv
  obtain ⟨rfl, hsz, hP, hK, hD0, hN, hT⟩ := hv
  have hx := B.exec
  have hb := B.bytes
  have hr := B.returns
  have hts : ∀ w ∈ tblG, w.before _ s = true := fun w h => atoms_spec (ws := (wsG yX6_open cX6_open 4 (some .int))) B.pre w (List.mem_cons_of_mem _ h)
  have hown : s.vm.findClass RX6 = some m.cls := findClass_of_methodNamed B.named
  have hlocks := B.notSynchronized
  subst hsz
  have hD := hD0.self (sz := s.heap.size)
  generalize hAe : va_A [(a_t, (oc6 5 24 a_n e_n)), (a_n, (arI G 120 f_n))] s.heap.size = A at hD hT ⊢
  have hA : ∀ q : Nat, s.heap.size ≤ q → A q := fun q h => by rw [← hAe]; exact Or.inr h
  have hS : va_S A s.heap s.heap [] := va_S.rf
  replace hP : va_P G.1 vwCl [(a_t, (oc6 5 24 a_n e_n)), (a_n, (arI G 120 f_n))] s.heap := hP
  have hl := lv_entry ([.ref a_t, .int p_v]) (n := 4) (Nat.le_of_ble_eq_true rfl)
  rw [lg_entry_eq]
  generalize (lg_sl ([.ref a_t, .int p_v]) ++ List.replicate (4 - (lg_sl ([.ref a_t, .int p_v])).length) Slot.unset).toArray = ls at hl ⊢
  replace hl : lv_has ls 4 [(0, .ref a_t), (1, .int p_v)] := hl
  refine lv_aload_n hx hb dX6_open_0 rfl (lv_at hl 0 rfl) ?_
  obtain ⟨hPc, hDc, hFc⟩ := g5_sub3 (wc := [(a_t, (oc6 5 24 a_n e_n))]) hP hD hS hA [0] (by decide +kernel) rfl
  refine va_calli (va_runV (As := []) (rest := []) ⟨hx, hb, hml, hown, hts⟩ (t_isFull_B l G a_t a_n s.heap.size e_n h_e_n) (cwV 0 hts gV_X6_33 rfl rfl rfl hv_X6_isFull ⟨Nat.le_of_ble_eq_true rfl, Nat.le_of_ble_eq_true rfl⟩) (g5_preV hPc hK hDc hN hT hS hFc (ci := 6) (q0 := 0) rfl rfl) rfl rfl hl.1 rfl (lv_room (Nat.le_of_ble_eq_true rfl)) dX6_open_1 ⟨Nat.le_of_ble_eq_true rfl, Nat.le_of_ble_eq_true rfl⟩) hS (fun q _ h => hFc q h) hFc (fun r u t H locs ht hvm hw hB hz1 hk1 hS => ?_)
  obtain ⟨hP1, hD1⟩ := hB
  have hP1 := g5_ht ht hP1
  rcases hw with ⟨(i_1 : e_n.toInt = 5), rfl, rfl⟩ | ⟨(i_2 : e_n.toInt < 5), rfl, rfl⟩
  ·
    have hJ9 := va_join (wr := [(a_n, (arI G 120 f_n))]) hP hD [0] [1] rfl rfl (by decide +kernel) (by decide +kernel) hk1 hFc hP1 hD1
    clear hP hD hPc hDc hFc ht hvm hz1 hk1 hP1 hD1
    obtain ⟨hP, hD⟩ := hJ9
    refine g5_rs [(a_n, (arI G 120 f_n)), (a_t, (oc6 5 24 a_n e_n))] hP hD ?_
    clear hP hD
    intro hP hD
    refine lv_if_eq (tgt := 9) hx hb dX6_open_4 (by decide +kernel) (fun c_3 => ?_) (fun c_3 => ?_)
    ·
      exact absurd c_3 (by decide +kernel)
    ·
      refine lv_iconst (v := (-1)) hx hb dX6_open_7 (by decide +kernel) ?_
      exact W.iret (v := (-1)) hx hb hr (fun t ht hW => ⟨⟨(-1), [(a_t, (oc6 5 24 a_n e_n)), (a_n, (arI G 120 f_n))], rfl, Or.inl (⟨by omega, rfl, rfl⟩), by rw [ht]; exact hP.sub [1, 0] rfl, hD.sub [1, 0] (by decide +kernel) rfl⟩, hS.F ht⟩) hS.2.2 dX6_open_8
  ·
    have hJ9 := va_join (wr := [(a_n, (arI G 120 f_n))]) hP hD [0] [1] rfl rfl (by decide +kernel) (by decide +kernel) hk1 hFc hP1 hD1
    clear hP hD hPc hDc hFc ht hvm hz1 hk1 hP1 hD1
    obtain ⟨hP, hD⟩ := hJ9
    refine g5_rs [(a_n, (arI G 120 f_n)), (a_t, (oc6 5 24 a_n e_n))] hP hD ?_
    clear hP hD
    intro hP hD
    refine lv_if_eq (tgt := 9) hx hb dX6_open_4 (by decide +kernel) (fun c_4 => ?_) (fun c_4 => ?_)
    ·
      refine lv_aload_n hx hb dX6_open_9 rfl (lv_at hl 0 rfl) ?_
      refine va_get (D := G.1) (ci := 6) (v := .int e_n) (C := RX6) (T := TX6) (N := 4) hx hb hts inG_X6 hown hK hP 1 rfl rfl 3 (by decide +kernel) (hts _ fl_X6_9) (fun _ h9 => h9) rfl dX6_open_10 ?_
      refine lv_istore_n (lv' := [(2, .int e_n), (0, .ref a_t), (1, .int p_v)]) hx hb dX6_open_13 rfl hl (by decide +kernel) rfl ?_
      clear hl
      intro ls hl
      refine lv_aload_n hx hb dX6_open_14 rfl (lv_at hl 1 rfl) ?_
      refine W.eq (g2 := F0 m 15 ls [.ref a_t]) rfl ?_
      refine lv_dup hx hb dX6_open_15 rfl ?_
      refine va_get (D := G.1) (ci := 6) (v := .int e_n) (C := RX6) (T := TX6) (N := 4) hx hb hts inG_X6 hown hK hP 1 rfl rfl 3 (by decide +kernel) (hts _ fl_X6_9) (fun _ h9 => h9) rfl dX6_open_16 ?_
      refine lv_iconst (v := 1) hx hb dX6_open_19 (by decide +kernel) ?_
      refine lv_iadd hx hb dX6_open_20 ?_
      have t_5 : (e_n + 1).toInt = e_n.toInt + 1 := g5_iadd (a := e_n.toInt) (b := 1) (by rfl) (by decide +kernel) (by omega) (by omega)
      refine va_put (D := G.1) (ci := 6) (v := .int (e_n + 1)) (ty := .int) (C := RX6) (T := TX6) (N := 4) hx hb hts inG_X6 tyX6 tyX6_ok nmX6 hown hK hP hD hS 1 rfl rfl 3 (by decide +kernel) (hts _ fl_X6_9) (fun _ h9 => h9) rfl (by decide +kernel) rfl rfl (Nat.le_of_ble_eq_true rfl) dX6_open_21 ?_
      clear hP hD hS
      intro H locs hP hD hS
      refine g5_rs [(a_n, (arI G 120 f_n)), (a_t, (oc6 5 24 a_n (e_n + 1)))] hP hD ?_
      clear hP hD
      intro hP hD
      refine W.eq (g2 := F0 m 24 ls []) rfl ?_
      refine lv_iconst (v := 0) hx hb dX6_open_24 (by decide +kernel) ?_
      refine lv_istore_n (lv' := [(3, .int 0), (2, .int e_n), (0, .ref a_t), (1, .int p_v)]) hx hb dX6_open_25 rfl hl (by decide +kernel) rfl ?_
      clear hl
      intro ls hl
      refine g5_loop (α := (Int32) × (Nat → Int32)) (fun (q : (Int32) × (Nat → Int32)) (ls : Array Slot) (H : Heap) (locs : List Loc) => match q with | (k_c, k_f) => lv_has ls 4 [(3, .int k_c), (2, .int e_n), (0, .ref a_t), (1, .int p_v)] ∧ va_P G.1 vwCl [(a_n, (arI G 120 k_f)), (a_t, (oc6 5 24 a_n (e_n + 1)))] H ∧ va_D A [(a_n, (arI G 120 k_f)), (a_t, (oc6 5 24 a_n (e_n + 1)))] ∧ va_S A s.heap H locs ∧ (0 ≤ k_c.toInt ∧ k_c.toInt ≤ 24) ∧ (k_f = tfil f_n e_n.toInt 24 p_v k_c.toInt)) (fun (q : (Int32) × (Nat → Int32)) => match q with | (k_c, k_f) => Int.toNat (24 - k_c.toInt)) (0, f_n) ⟨lv_sub hl [0, 1, 2, 3] rfl, hP, hD, hS, ⟨by decide, by decide⟩, qt_fil0⟩ ?_
      rintro ⟨k_c, k_f⟩ ls H locs ⟨hl, hP, hD, hS, (i_6 : 0 ≤ k_c.toInt ∧ k_c.toInt ≤ 24), (i_7 : k_f = tfil f_n e_n.toInt 24 p_v k_c.toInt)⟩ ih_26_8
      replace hl : lv_has ls 4 [(3, .int k_c), (2, .int e_n), (0, .ref a_t), (1, .int p_v)] := hl
      refine g5_rs [(a_n, (arI G 120 k_f)), (a_t, (oc6 5 24 a_n (e_n + 1)))] hP hD ?_
      clear hP hD
      intro hP hD
      refine lv_iload_n hx hb dX6_open_26 rfl (lv_at hl 0 rfl) ?_
      refine lv_aload_n hx hb dX6_open_27 rfl (lv_at hl 2 rfl) ?_
      refine va_get (D := G.1) (ci := 6) (v := .int 24) (C := RX6) (T := TX6) (N := 4) hx hb hts inG_X6 hown hK hP 1 rfl rfl 1 (by decide +kernel) (hts _ fl_X6_18) (fun _ h9 => h9) rfl dX6_open_28 ?_
      refine lv_icmp_ge (tgt := 47) hx hb dX6_open_31 (by decide +kernel) (fun c_9 => ?_) (fun c_9 => ?_)
      ·
        have i_9 : k_c.toInt ≥ 24 := g5_ge (a := k_c.toInt) (b := 24) rfl (by decide +kernel) c_9
        refine lv_iload_n hx hb dX6_open_47 rfl (lv_at hl 1 rfl) ?_
        exact W.iret (v := e_n) hx hb hr (fun t ht hW => ⟨⟨e_n, [(a_t, (oc6 5 24 a_n (e_n + 1))), (a_n, (arI G 120 k_f))], rfl, Or.inr (⟨k_f, by omega, by omega, by rw [i_7, show k_c.toInt = 24 by omega], rfl, rfl⟩), by rw [ht]; exact hP.sub [1, 0] rfl, hD.sub [1, 0] (by decide +kernel) rfl⟩, hS.F ht⟩) hS.2.2 dX6_open_48
      ·
        have i_9 : k_c.toInt < 24 := g5_geN (a := k_c.toInt) (b := 24) rfl (by decide +kernel) c_9
        refine lv_aload_n hx hb dX6_open_34 rfl (lv_at hl 2 rfl) ?_
        refine lv_iload_n hx hb dX6_open_35 rfl (lv_at hl 1 rfl) ?_
        refine lv_iload_n hx hb dX6_open_36 rfl (lv_at hl 0 rfl) ?_
        refine lv_iload_n hx hb dX6_open_37 rfl (lv_at hl 3 rfl) ?_
        refine W.eq (g2 := F0 m 38 ls [.int p_v, .int k_c, .int e_n, .ref a_t]) rfl ?_
        obtain ⟨hPc, hDc, hFc⟩ := g5_sub3 (wc := [(a_t, (oc6 5 24 a_n (e_n + 1))), (a_n, (arI G 120 k_f))]) hP hD hS hA [1, 0] (by decide +kernel) rfl
        refine va_callv (va_runV (As := [.int e_n, .int k_c, .int p_v]) (rest := []) ⟨hx, hb, hml, hown, hts⟩ (t_set_B l G a_t a_n H.size (e_n + 1) e_n k_c p_v k_f ⟨by omega, by omega⟩) (cwV 3 hts gV_X6_29 rfl rfl rfl hv_X6_set ⟨Nat.le_of_ble_eq_true rfl, Nat.le_of_ble_eq_true rfl⟩) (g5_preV hPc hK hDc hN hT hS hFc (ci := 6) (q0 := 0) rfl rfl) rfl rfl hl.1 rfl (lv_room (Nat.le_of_ble_eq_true rfl)) dX6_open_38 ⟨Nat.le_of_ble_eq_true rfl, Nat.le_of_ble_eq_true rfl⟩) hS (fun q _ h => hFc q h) hFc (fun u t H locs ht hvm hw hB hz1 hk1 hS => ?_)
        obtain ⟨hP1, hD1⟩ := hB
        have hP1 := g5_ht ht hP1
        obtain ⟨z11, (i_10 : z11 = tset k_f (e_n + 1).toInt 24 e_n.toInt k_c.toInt p_v), rfl⟩ := hw
        have hJ9 := va_join (wr := []) hP hD [1, 0] [] rfl rfl (by decide +kernel) (by decide +kernel) hk1 hFc hP1 hD1
        clear hP hD hPc hDc hFc ht hvm hz1 hk1 hP1 hD1
        obtain ⟨hP, hD⟩ := hJ9
        refine g5_rs [(a_t, (oc6 5 24 a_n (e_n + 1))), (a_n, (arI G 120 z11))] hP hD ?_
        clear hP hD
        intro hP hD
        refine lv_iinc (v := (k_c + 1)) (lv' := [(3, .int (k_c + 1)), (2, .int e_n), (0, .ref a_t), (1, .int p_v)]) hx hb dX6_open_41 hl (k := 0) rfl rfl (by decide +kernel) rfl ?_
        clear hl
        intro ls hl
        have t_12 : (k_c + 1).toInt = k_c.toInt + 1 := g5_iadd (a := k_c.toInt) (b := 1) rfl (by decide +kernel) (by omega) (by omega)
        refine lv_goto (tgt := 26) hx hb dX6_open_44 (by decide +kernel) ?_
        exact ih_26_8 ((k_c + 1), z11) ls H locs (show Int.toNat (24 - (k_c + 1).toInt) < Int.toNat (24 - k_c.toInt) from g_up (show k_c.toInt < (k_c + 1).toInt by omega) (show k_c.toInt < 24 by omega)) ⟨lv_sub hl [0, 1, 2, 3] rfl, hP.sub [1, 0] rfl, hD.sub [1, 0] (by decide +kernel) rfl, hS, ⟨by omega, by omega⟩, i_10.trans (qt_filS i_7 (by omega) (by omega) (by omega) (by omega) (by omega))⟩
    ·
      exact absurd c_4 (by decide +kernel)
set_option maxHeartbeats 4000000 in
set_option maxRecDepth 100000 in
theorem t_has_S (l : Launch) (G : g5_G) (a_t a_n : Nat) (sz : Nat) (e_n : Int32) (p_r : Int32) (h_e_n : 0 ≤ e_n.toInt ∧ e_n.toInt ≤ 10) : Met l yX6_has (wsG yX6_has cX6_has 2 (some .boolean)) ({ frames := 0, cells := 0, slots := 0, locals := 0 }) (va_Pc [.ref a_t, .int p_r] (g5_P G [(a_t, (oc6 10 4 a_n e_n))] sz)) (va_Qi (fun (r : Int32) (u : va_W) => ((0 ≤ p_r.toInt ∧ p_r.toInt < e_n.toInt) ∧ (r = 1) ∧ (u = [(a_t, (oc6 10 4 a_n e_n))])) ∨ ((p_r.toInt < 0 ∨ e_n.toInt ≤ p_r.toInt) ∧ (r = 0) ∧ (u = [(a_t, (oc6 10 4 a_n e_n))]))) (g5_B G (va_A [(a_t, (oc6 10 4 a_n e_n))] sz)) (va_A [(a_t, (oc6 10 4 a_n e_n))] sz)) 0 0 (va_A [(a_t, (oc6 10 4 a_n e_n))] sz) := by
  refine Met.ofW (cc := cX6_has) (maxL := 2) (ret := (some .boolean)) (by decide) rfl ?_
  intro p e s m args below meth c s₁ B hml hv
  obtain ⟨rfl, hsz, hP, hK, hD0, hN, hT⟩ := hv
  have hx := B.exec
  have hb := B.bytes
  have hr := B.returns
  have hts : ∀ w ∈ tblG, w.before _ s = true := fun w h => atoms_spec (ws := (wsG yX6_has cX6_has 2 (some .boolean))) B.pre w (List.mem_cons_of_mem _ h)
  have hown : s.vm.findClass RX6 = some m.cls := findClass_of_methodNamed B.named
  have hlocks := B.notSynchronized
  subst hsz
  have hD := hD0.self (sz := s.heap.size)
  generalize hAe : va_A [(a_t, (oc6 10 4 a_n e_n))] s.heap.size = A at hD hT ⊢
  have hA : ∀ q : Nat, s.heap.size ≤ q → A q := fun q h => by rw [← hAe]; exact Or.inr h
  have hS : va_S A s.heap s.heap [] := va_S.rf
  have hP : va_P G.1 vwCl [(a_t, (oc6 10 4 a_n e_n))] s.heap := hP
  have hl := lv_entry ([.ref a_t, .int p_r]) (n := 2) (Nat.le_of_ble_eq_true rfl)
  rw [lg_entry_eq]
  generalize (lg_sl ([.ref a_t, .int p_r]) ++ List.replicate (2 - (lg_sl ([.ref a_t, .int p_r])).length) Slot.unset).toArray = ls at hl ⊢
  have hl : lv_has ls 2 [(0, .ref a_t), (1, .int p_r)] := hl
  refine lv_iload_n hx hb dX6_has_0 rfl (lv_at hl 1 rfl) ?_
  refine lv_if_lt (tgt := 16) hx hb dX6_has_1 (by decide) (fun c_1 => ?_) (fun c_1 => ?_)
  ·
    have i_1 : p_r.toInt < 0 := by have z := g5_lt (a := p_r.toInt) (b := 0) (by rfl) (by decide) c_1; omega
    refine lv_iconst (v := 0) hx hb dX6_has_16 (by decide) ?_
    exact W.zret (v := 0) hx hb hr rfl (fun t ht hW => ⟨⟨0, [(a_t, (oc6 10 4 a_n e_n))], rfl, Or.inr (⟨by omega, rfl, rfl⟩), by rw [ht]; exact hP.sub [0] rfl, hD.sub [0] (by decide) rfl⟩, hS.F ht⟩) hS.2.2 dX6_has_17
  ·
    have i_1 : p_r.toInt ≥ 0 := by have z := g5_ltN (a := p_r.toInt) (b := 0) (by rfl) (by decide) c_1; omega
    refine lv_iload_n hx hb dX6_has_4 rfl (lv_at hl 1 rfl) ?_
    refine lv_aload_n hx hb dX6_has_5 rfl (lv_at hl 0 rfl) ?_
    refine va_get (D := G.1) (ci := 6) (v := .int e_n) (C := RX6) (T := TX6) (N := 4) hx hb hts inG_X6 hown hK hP 0 rfl rfl 3 (by decide) (hts _ fl_X6_9) (fun _ h9 => h9) rfl dX6_has_6 ?_
    refine lv_icmp_ge (tgt := 16) hx hb dX6_has_9 (by decide) (fun c_2 => ?_) (fun c_2 => ?_)
    ·
      have i_2 : p_r.toInt ≥ e_n.toInt := by have z := g5_ge (a := p_r.toInt) (b := e_n.toInt) (by rfl) (by rfl) c_2; omega
      refine lv_iconst (v := 0) hx hb dX6_has_16 (by decide) ?_
      exact W.zret (v := 0) hx hb hr rfl (fun t ht hW => ⟨⟨0, [(a_t, (oc6 10 4 a_n e_n))], rfl, Or.inr (⟨by omega, rfl, rfl⟩), by rw [ht]; exact hP.sub [0] rfl, hD.sub [0] (by decide) rfl⟩, hS.F ht⟩) hS.2.2 dX6_has_17
    ·
      have i_2 : p_r.toInt < e_n.toInt := by have z := g5_geN (a := p_r.toInt) (b := e_n.toInt) (by rfl) (by rfl) c_2; omega
      refine lv_iconst (v := 1) hx hb dX6_has_12 (by decide) ?_
      refine lv_goto (tgt := 17) hx hb dX6_has_13 (by decide) ?_
      exact W.zret (v := 1) hx hb hr rfl (fun t ht hW => ⟨⟨1, [(a_t, (oc6 10 4 a_n e_n))], rfl, Or.inl (⟨by omega, rfl, rfl⟩), by rw [ht]; exact hP.sub [0] rfl, hD.sub [0] (by decide) rfl⟩, hS.F ht⟩) hS.2.2 dX6_has_17
set_option maxHeartbeats 4000000 in
set_option maxRecDepth 100000 in
theorem t_isFull_S (l : Launch) (G : g5_G) (a_t a_n : Nat) (sz : Nat) (e_n : Int32) (h_e_n : 0 ≤ e_n.toInt ∧ e_n.toInt ≤ 10) : Met l yX6_isFull (wsG yX6_isFull cX6_isFull 1 (some .boolean)) ({ frames := 0, cells := 0, slots := 0, locals := 0 }) (va_Pc [.ref a_t] (g5_P G [(a_t, (oc6 10 4 a_n e_n))] sz)) (va_Qi (fun (r : Int32) (u : va_W) => ((e_n.toInt = 10) ∧ (r = 1) ∧ (u = [(a_t, (oc6 10 4 a_n e_n))])) ∨ ((e_n.toInt < 10) ∧ (r = 0) ∧ (u = [(a_t, (oc6 10 4 a_n e_n))]))) (g5_B G (va_A [(a_t, (oc6 10 4 a_n e_n))] sz)) (va_A [(a_t, (oc6 10 4 a_n e_n))] sz)) 0 0 (va_A [(a_t, (oc6 10 4 a_n e_n))] sz) := by
  refine Met.ofW (cc := cX6_isFull) (maxL := 1) (ret := (some .boolean)) (by decide) rfl ?_
  intro p e s m args below meth c s₁ B hml hv
  obtain ⟨rfl, hsz, hP, hK, hD0, hN, hT⟩ := hv
  have hx := B.exec
  have hb := B.bytes
  have hr := B.returns
  have hts : ∀ w ∈ tblG, w.before _ s = true := fun w h => atoms_spec (ws := (wsG yX6_isFull cX6_isFull 1 (some .boolean))) B.pre w (List.mem_cons_of_mem _ h)
  have hown : s.vm.findClass RX6 = some m.cls := findClass_of_methodNamed B.named
  have hlocks := B.notSynchronized
  subst hsz
  have hD := hD0.self (sz := s.heap.size)
  generalize hAe : va_A [(a_t, (oc6 10 4 a_n e_n))] s.heap.size = A at hD hT ⊢
  have hA : ∀ q : Nat, s.heap.size ≤ q → A q := fun q h => by rw [← hAe]; exact Or.inr h
  have hS : va_S A s.heap s.heap [] := va_S.rf
  have hP : va_P G.1 vwCl [(a_t, (oc6 10 4 a_n e_n))] s.heap := hP
  have hl := lv_entry ([.ref a_t]) (n := 1) (Nat.le_of_ble_eq_true rfl)
  rw [lg_entry_eq]
  generalize (lg_sl ([.ref a_t]) ++ List.replicate (1 - (lg_sl ([.ref a_t])).length) Slot.unset).toArray = ls at hl ⊢
  have hl : lv_has ls 1 [(0, .ref a_t)] := hl
  refine lv_aload_n hx hb dX6_isFull_0 rfl (lv_at hl 0 rfl) ?_
  refine va_get (D := G.1) (ci := 6) (v := .int e_n) (C := RX6) (T := TX6) (N := 4) hx hb hts inG_X6 hown hK hP 0 rfl rfl 3 (by decide) (hts _ fl_X6_9) (fun _ h9 => h9) rfl dX6_isFull_1 ?_
  refine lv_aload_n hx hb dX6_isFull_4 rfl (lv_at hl 0 rfl) ?_
  refine va_get (D := G.1) (ci := 6) (v := .int 10) (C := RX6) (T := TX6) (N := 4) hx hb hts inG_X6 hown hK hP 0 rfl rfl 0 (by decide) (hts _ fl_X6_15) (fun _ h9 => h9) rfl dX6_isFull_5 ?_
  refine W.eq (g2 := F0 m 8 ls [.int 10, .int e_n]) rfl ?_
  refine lv_icmp_lt (tgt := 15) hx hb dX6_isFull_8 (by decide) (fun c_1 => ?_) (fun c_1 => ?_)
  ·
    have i_1 : e_n.toInt < 10 := by have z := g5_lt (a := e_n.toInt) (b := 10) (by rfl) (by decide) c_1; omega
    refine lv_iconst (v := 0) hx hb dX6_isFull_15 (by decide) ?_
    exact W.zret (v := 0) hx hb hr rfl (fun t ht hW => ⟨⟨0, [(a_t, (oc6 10 4 a_n e_n))], rfl, Or.inr (⟨by omega, rfl, rfl⟩), by rw [ht]; exact hP.sub [0] rfl, hD.sub [0] (by decide) rfl⟩, hS.F ht⟩) hS.2.2 dX6_isFull_16
  ·
    have i_1 : e_n.toInt ≥ 10 := by have z := g5_ltN (a := e_n.toInt) (b := 10) (by rfl) (by decide) c_1; omega
    refine lv_iconst (v := 1) hx hb dX6_isFull_11 (by decide) ?_
    refine lv_goto (tgt := 16) hx hb dX6_isFull_12 (by decide) ?_
    exact W.zret (v := 1) hx hb hr rfl (fun t ht hW => ⟨⟨1, [(a_t, (oc6 10 4 a_n e_n))], rfl, Or.inl (⟨by omega, rfl, rfl⟩), by rw [ht]; exact hP.sub [0] rfl, hD.sub [0] (by decide) rfl⟩, hS.F ht⟩) hS.2.2 dX6_isFull_16
set_option maxHeartbeats 4000000 in
set_option maxRecDepth 100000 in
theorem t_get_S (l : Launch) (G : g5_G) (a_t a_n : Nat) (sz : Nat) (e_n : Int32) (p_r : Int32) (p_c : Int32) (f_n : Nat → Int32) (h_e_n : 0 ≤ e_n.toInt ∧ e_n.toInt ≤ 10) : Met l yX6_get (wsG yX6_get cX6_get 3 (some .int)) ({ frames := 0, cells := 0, slots := 0, locals := 0 }) (va_Pc [.ref a_t, .int p_r, .int p_c] (g5_P G [(a_t, (oc6 10 4 a_n e_n)), (a_n, (arI G 40 f_n))] sz)) (va_Qi (fun (r : Int32) (u : va_W) => (∃ (o_r : Int32), (o_r = tget f_n e_n.toInt 4 p_r.toInt p_c.toInt) ∧ (r = o_r) ∧ (u = [(a_t, (oc6 10 4 a_n e_n)), (a_n, (arI G 40 f_n))]))) (g5_B G (va_A [(a_t, (oc6 10 4 a_n e_n)), (a_n, (arI G 40 f_n))] sz)) (va_A [(a_t, (oc6 10 4 a_n e_n)), (a_n, (arI G 40 f_n))] sz)) 0 0 (va_A [(a_t, (oc6 10 4 a_n e_n)), (a_n, (arI G 40 f_n))] sz) := by
  refine Met.ofW (cc := cX6_get) (maxL := 3) (ret := (some .int)) (by decide) rfl ?_
  intro p e s m args below meth c s₁ B hml hv
  obtain ⟨rfl, hsz, hP, hK, hD0, hN, hT⟩ := hv
  have hx := B.exec
  have hb := B.bytes
  have hr := B.returns
  have hts : ∀ w ∈ tblG, w.before _ s = true := fun w h => atoms_spec (ws := (wsG yX6_get cX6_get 3 (some .int))) B.pre w (List.mem_cons_of_mem _ h)
  have hown : s.vm.findClass RX6 = some m.cls := findClass_of_methodNamed B.named
  have hlocks := B.notSynchronized
  subst hsz
  have hD := hD0.self (sz := s.heap.size)
  generalize hAe : va_A [(a_t, (oc6 10 4 a_n e_n)), (a_n, (arI G 40 f_n))] s.heap.size = A at hD hT ⊢
  have hA : ∀ q : Nat, s.heap.size ≤ q → A q := fun q h => by rw [← hAe]; exact Or.inr h
  have hS : va_S A s.heap s.heap [] := va_S.rf
  have hP : va_P G.1 vwCl [(a_t, (oc6 10 4 a_n e_n)), (a_n, (arI G 40 f_n))] s.heap := hP
  have hl := lv_entry ([.ref a_t, .int p_r, .int p_c]) (n := 3) (Nat.le_of_ble_eq_true rfl)
  rw [lg_entry_eq]
  generalize (lg_sl ([.ref a_t, .int p_r, .int p_c]) ++ List.replicate (3 - (lg_sl ([.ref a_t, .int p_r, .int p_c])).length) Slot.unset).toArray = ls at hl ⊢
  have hl : lv_has ls 3 [(0, .ref a_t), (1, .int p_r), (2, .int p_c)] := hl
  refine lv_iload_n hx hb dX6_get_0 rfl (lv_at hl 1 rfl) ?_
  refine lv_if_lt (tgt := 24) hx hb dX6_get_1 (by decide) (fun c_1 => ?_) (fun c_1 => ?_)
  ·
    have i_1 : p_r.toInt < 0 := by have z := g5_lt (a := p_r.toInt) (b := 0) (by rfl) (by decide) c_1; omega
    refine lv_iconst (v := (-1)) hx hb dX6_get_24 (by decide) ?_
    exact W.iret (v := (-1)) hx hb hr (fun t ht hW => ⟨⟨(-1), [(a_t, (oc6 10 4 a_n e_n)), (a_n, (arI G 40 f_n))], rfl, ⟨(-1), qt_getN (by omega), rfl, rfl⟩, by rw [ht]; exact hP.sub [0, 1] rfl, hD.sub [0, 1] (by decide) rfl⟩, hS.F ht⟩) hS.2.2 dX6_get_25
  ·
    have i_1 : p_r.toInt ≥ 0 := by have z := g5_ltN (a := p_r.toInt) (b := 0) (by rfl) (by decide) c_1; omega
    refine lv_iload_n hx hb dX6_get_4 rfl (lv_at hl 1 rfl) ?_
    refine lv_aload_n hx hb dX6_get_5 rfl (lv_at hl 0 rfl) ?_
    refine va_get (D := G.1) (ci := 6) (v := .int e_n) (C := RX6) (T := TX6) (N := 4) hx hb hts inG_X6 hown hK hP 0 rfl rfl 3 (by decide) (hts _ fl_X6_9) (fun _ h9 => h9) rfl dX6_get_6 ?_
    refine lv_icmp_ge (tgt := 24) hx hb dX6_get_9 (by decide) (fun c_2 => ?_) (fun c_2 => ?_)
    ·
      have i_2 : p_r.toInt ≥ e_n.toInt := by have z := g5_ge (a := p_r.toInt) (b := e_n.toInt) (by rfl) (by rfl) c_2; omega
      refine lv_iconst (v := (-1)) hx hb dX6_get_24 (by decide) ?_
      exact W.iret (v := (-1)) hx hb hr (fun t ht hW => ⟨⟨(-1), [(a_t, (oc6 10 4 a_n e_n)), (a_n, (arI G 40 f_n))], rfl, ⟨(-1), qt_getN (by omega), rfl, rfl⟩, by rw [ht]; exact hP.sub [0, 1] rfl, hD.sub [0, 1] (by decide) rfl⟩, hS.F ht⟩) hS.2.2 dX6_get_25
    ·
      have i_2 : p_r.toInt < e_n.toInt := by have z := g5_geN (a := p_r.toInt) (b := e_n.toInt) (by rfl) (by rfl) c_2; omega
      refine lv_iload_n hx hb dX6_get_12 rfl (lv_at hl 2 rfl) ?_
      refine lv_if_lt (tgt := 24) hx hb dX6_get_13 (by decide) (fun c_3 => ?_) (fun c_3 => ?_)
      ·
        have i_3 : p_c.toInt < 0 := by have z := g5_lt (a := p_c.toInt) (b := 0) (by rfl) (by decide) c_3; omega
        refine lv_iconst (v := (-1)) hx hb dX6_get_24 (by decide) ?_
        exact W.iret (v := (-1)) hx hb hr (fun t ht hW => ⟨⟨(-1), [(a_t, (oc6 10 4 a_n e_n)), (a_n, (arI G 40 f_n))], rfl, ⟨(-1), qt_getN (by omega), rfl, rfl⟩, by rw [ht]; exact hP.sub [0, 1] rfl, hD.sub [0, 1] (by decide) rfl⟩, hS.F ht⟩) hS.2.2 dX6_get_25
      ·
        have i_3 : p_c.toInt ≥ 0 := by have z := g5_ltN (a := p_c.toInt) (b := 0) (by rfl) (by decide) c_3; omega
        refine lv_iload_n hx hb dX6_get_16 rfl (lv_at hl 2 rfl) ?_
        refine lv_aload_n hx hb dX6_get_17 rfl (lv_at hl 0 rfl) ?_
        refine va_get (D := G.1) (ci := 6) (v := .int 4) (C := RX6) (T := TX6) (N := 4) hx hb hts inG_X6 hown hK hP 0 rfl rfl 1 (by decide) (hts _ fl_X6_18) (fun _ h9 => h9) rfl dX6_get_18 ?_
        refine lv_icmp_lt (tgt := 26) hx hb dX6_get_21 (by decide) (fun c_4 => ?_) (fun c_4 => ?_)
        ·
          have i_4 : p_c.toInt < 4 := by have z := g5_lt (a := p_c.toInt) (b := 4) (by rfl) (by decide) c_4; omega
          refine lv_aload_n hx hb dX6_get_26 rfl (lv_at hl 0 rfl) ?_
          refine va_get (D := G.1) (ci := 6) (v := .ref a_n) (C := RX6) (T := TX6) (N := 4) hx hb hts inG_X6 hown hK hP 0 rfl rfl 2 (by decide) (hts _ fl_X6_21) (fun _ h9 => h9) rfl dX6_get_27 ?_
          refine lv_iload_n hx hb dX6_get_30 rfl (lv_at hl 1 rfl) ?_
          refine lv_aload_n hx hb dX6_get_31 rfl (lv_at hl 0 rfl) ?_
          refine W.eq (g2 := F0 m 32 ls [.ref a_t, .int p_r, .ref a_n]) rfl ?_
          refine va_get (D := G.1) (ci := 6) (v := .int 4) (C := RX6) (T := TX6) (N := 4) hx hb hts inG_X6 hown hK hP 0 rfl rfl 1 (by decide) (hts _ fl_X6_18) (fun _ h9 => h9) rfl dX6_get_32 ?_
          refine lv_imul hx hb dX6_get_35 ?_
          have t_5 : (p_r * 4).toInt = p_r.toInt * 4 := g5_imul (a := p_r.toInt) (b := 4) (by rfl) (by decide) (by omega) (by omega)
          refine lv_iload_n hx hb dX6_get_36 rfl (lv_at hl 2 rfl) ?_
          refine lv_iadd hx hb dX6_get_37 ?_
          have t_6 : ((p_r * 4) + p_c).toInt = (p_r * 4).toInt + p_c.toInt := g5_iadd (a := (p_r * 4).toInt) (b := p_c.toInt) (by rfl) (by rfl) (by omega) (by omega)
          refine va_iald hx hb hK hP 1 0 rfl rfl (i := ((p_r * 4) + p_c)) (vp_in_iff.mpr ⟨by omega, by omega⟩) dX6_get_38 ?_
          refine W.eq (g2 := F0 m 39 ls [.int (f_n ((p_r * 4) + p_c).toNatClampNeg)]) rfl ?_
          exact W.iret (v := (f_n ((p_r * 4) + p_c).toNatClampNeg)) hx hb hr (fun t ht hW => ⟨⟨(f_n ((p_r * 4) + p_c).toNatClampNeg), [(a_t, (oc6 10 4 a_n e_n)), (a_n, (arI G 40 f_n))], rfl, ⟨(f_n ((p_r * 4) + p_c).toNatClampNeg), qt_get (x := ((p_r * 4) + p_c)) (by omega) (by omega), rfl, rfl⟩, by rw [ht]; exact hP.sub [0, 1] rfl, hD.sub [0, 1] (by decide) rfl⟩, hS.F ht⟩) hS.2.2 dX6_get_39
        ·
          have i_4 : p_c.toInt ≥ 4 := by have z := g5_ltN (a := p_c.toInt) (b := 4) (by rfl) (by decide) c_4; omega
          refine lv_iconst (v := (-1)) hx hb dX6_get_24 (by decide) ?_
          exact W.iret (v := (-1)) hx hb hr (fun t ht hW => ⟨⟨(-1), [(a_t, (oc6 10 4 a_n e_n)), (a_n, (arI G 40 f_n))], rfl, ⟨(-1), qt_getN (by omega), rfl, rfl⟩, by rw [ht]; exact hP.sub [0, 1] rfl, hD.sub [0, 1] (by decide) rfl⟩, hS.F ht⟩) hS.2.2 dX6_get_25
