/-! what each call answers on a fresh object -/
def okC (c : Int) : Prop := 0 ≤ c ∧ c ≤ 63
def sp_wall (c i : Int) : Int := if 0 ≤ c ∧ c ≤ 63 ∧ 0 ≤ i ∧ i ≤ 1 then 0 else -1
def sp_glass (c s t d : Int) : Int := if 0 ≤ c ∧ c ≤ 63 ∧ 0 ≤ s ∧ s ≤ 5 ∧ 0 ≤ t ∧ t ≤ 23 ∧ 0 ≤ d ∧ d ≤ 10 then 0 else -1
def sp_turn (g w v : Int) : Int := if (w = 0 ∧ 0 ≤ v ∧ v ≤ 5) ∨ (w = 1 ∧ 0 ≤ v ∧ v ≤ 23) ∨ (w = 2 ∧ 0 ≤ v ∧ v ≤ 10) ∨ (w = 3 ∧ 0 ≤ v ∧ v ≤ 16777215) then -2 else -1
def sp_of (g w : Int) : Int := -1
def sp_body : Int := 0
def sp_stay (b f t c : Int) : Int := if 0 ≤ f ∧ f ≤ 23 ∧ 0 ≤ t ∧ t ≤ 23 ∧ f ≤ t ∧ -1 ≤ c ∧ c ≤ 63 then -2 else -1
def sp_where (b h : Int) : Int := -1
def sp_least (b : Int) : Int := if 0 ≤ b ∧ b ≤ 1000000 then 1000 else -1
def sp_feed (a b c d e : Int) : Int := 20
def sp_end (n : Int) : Int := if n = 0 then 0 else -1
def sp_row : Int := -6
def sp_faded : Int := 0
def sp_law : Int := -6
def sp_fault : Int := -1
def sp_force (n : Int) : Int := if n = -1 then -1 else -2
def sp_look (c w h k : Int) : Int := if 0 ≤ c ∧ c ≤ 63 ∧ 0 ≤ w ∧ w ≤ 3 ∧ 0 ≤ h ∧ h ≤ 23 then (if k = 1 then nW w.toNat c else if k = 2 then (if nW w.toNat c = 0 then -1 else h) else if k = 3 then 1000000 else if k = 4 then 0 else -1) else -1
def sp_point (c w h i : Int) : Int := if 0 ≤ c ∧ c ≤ 63 ∧ 0 ≤ w ∧ w ≤ 3 ∧ 0 ≤ h ∧ h ≤ 23 ∧ 0 ≤ i ∧ i < nW w.toNat c then h * 64 + gW w.toNat c i.toNat else -1
def sp_sees (c h : Int) : Int := if 0 ≤ c ∧ c ≤ 63 ∧ 0 ≤ h ∧ h ≤ 23 then 0 else -1
def sp_late (b o h : Int) : Int := -1
def sp_first (b w : Int) : Int := -1
def sp_lit (c h w : Int) : Int := if 0 ≤ c ∧ c ≤ 63 ∧ 0 ≤ h ∧ h ≤ 23 ∧ -1 ≤ w ∧ w ≤ 63 then (if w = -1 then 14 else if w ≠ c ∧ (w / 8 = c / 8 ∨ w % 8 = c % 8) then 1 else 0) else -1
def sp_unseen (c : Int) : Int := if 0 ≤ c ∧ c ≤ 63 then 24 else -1
def sp_sighting (c w h s : Int) : Int := if 0 ≤ c ∧ c ≤ 63 ∧ 0 ≤ w ∧ w ≤ 3 ∧ 0 ≤ h ∧ h ≤ 23 ∧ 0 ≤ s ∧ s ≤ 1 then 1 else -1
def sp_drop (s : Int) : Int := -2
def sp_start (c : Int) : Int := -1
def sp_path (h : Int) : Int := if 0 ≤ h ∧ h ≤ 23 then 0 else -1
def sp_core : Int := 0
def sp_surely (h : Int) : Int := -1
def sp_spot (c s t : Int) : Int := if 0 ≤ c ∧ c ≤ 63 ∧ 0 ≤ s ∧ s ≤ 5 ∧ 0 ≤ t ∧ t ≤ 23 then 0 else -1
def sp_wish (c w h a t i : Int) : Int := if 0 ≤ c ∧ c ≤ 63 ∧ 0 ≤ w ∧ w ≤ 3 ∧ 0 ≤ h ∧ h ≤ 23 ∧ 0 ≤ a ∧ a ≤ 63 ∧ 0 ≤ t ∧ t ≤ 23 ∧ 0 ≤ i ∧ i ≤ 1 then 1 else -1
def sp_lacks (s : Int) : Int := if s = 0 then 0 else -1
def sp_hang (w : Int) : Int := if w = 0 then 0 else if w = 1 then 1 else if w = 2 then 0 else -1
def sp_soonest (b c h : Int) : Int := -1
def sp_way (b c h a : Int) : Int := -1
def sp_sooner (b c h w : Int) : Int := -1
def sp_wander (s c : Int) : Int := if 0 ≤ s ∧ s ≤ 1000000 ∧ 0 ≤ c ∧ c ≤ 63 then 0 else -1
def sp_drawn (h : Int) : Int := -1
def sp_image (k : Int) : Int := if 0 ≤ k ∧ k ≤ 1 then 0 else -1
def sp_back (k : Int) : Int := if 0 ≤ k ∧ k ≤ 1 then -2 else -1
def sp_count (w : Int) : Int := if 0 ≤ w ∧ w ≤ 12 then 0 else -1
def sp_status : Int := 0
theorem g5_wkI {l : Launch} {y : MethodName} {ws : List Cond} {rm : Room} {Pc : Array Value → State → Prop} {S : Type} {post post' : Int32 → S → Prop} {B : S → State → Prop} {A : Nat → Prop} {mc ms : Nat} {free : Addr → Prop} (h : Met l y ws rm Pc (va_Qi post B A) mc ms free) (hp : ∀ r u, post r u → post' r u) : Met l y ws rm Pc (va_Qi post' B A) mc ms free :=
  MetFree.mono h (fun _ _ h => h) (fun _ _ _ _ _ h => h) (fun _ _ _ _ _ h => by
    obtain ⟨⟨⟨r, u, h1, h2, h3⟩, h4⟩, h5⟩ := h
    exact ⟨⟨⟨r, u, h1, hp r u h2, h3⟩, h4⟩, h5⟩)
theorem g5_wkL {l : Launch} {y : MethodName} {ws : List Cond} {rm : Room} {Pc : Array Value → State → Prop} {S : Type} {post post' : Int64 → S → Prop} {B : S → State → Prop} {A : Nat → Prop} {mc ms : Nat} {free : Addr → Prop} (h : Met l y ws rm Pc (va_Ql post B A) mc ms free) (hp : ∀ r u, post r u → post' r u) : Met l y ws rm Pc (va_Ql post' B A) mc ms free :=
  MetFree.mono h (fun _ _ h => h) (fun _ _ _ _ _ h => h) (fun _ _ _ _ _ h => by
    obtain ⟨⟨⟨r, u, h1, h2, h3⟩, h4⟩, h5⟩ := h
    exact ⟨⟨⟨r, u, h1, hp r u h2, h3⟩, h4⟩, h5⟩)
def sh6 (a : Int64) (k : Int32) : Int64 := (a.toUInt64 >>> (k.toInt64.toUInt64 &&& Int64.toUInt64 63)).toInt64
def bcA (a : Int64) : Int64 := a - (sh6 a 1 &&& 6148914691236517205)
def bcB (b : Int64) : Int64 := (b &&& 3689348814741910323) + (sh6 b 2 &&& 3689348814741910323)
def bcC (c : Int64) : Int64 := (c + sh6 c 4) &&& 1085102592571150095
def bcD (k : Int32) (d : Int64) : Int64 := d + sh6 d k
/-- Long.bitCount -/
def bc64 (a : Int64) : Int32 := (bcD 32 (bcD 16 (bcD 8 (bcC (bcB (bcA a)))))).toInt32 &&& 127
theorem lit_bc : ∀ k : Nat, k < 64 → (bc64 (litB k)).toInt = 14 := by decide +kernel
theorem lit_on : ∀ k : Nat, k < 64 → ∀ w : Nat, w < 64 → onB (litB k) w = decide (w ≠ k ∧ (w / 8 = k / 8 ∨ w % 8 = k % 8)) := by decide +kernel
theorem g5_lit14 {z : Int64} {c h w : Int32} (hz : z = litB c.toInt) (h0 : 0 ≤ c.toInt) (h1 : c.toInt ≤ 63) (h2 : 0 ≤ h.toInt) (h3 : h.toInt ≤ 23) (h4 : w.toInt = -1) : (bc64 z).toInt = sp_lit c.toInt h.toInt w.toInt := by
  have k := lit_bc c.toInt.toNat (by omega)
  rw [Int.toNat_of_nonneg h0] at k
  rw [hz, k]; unfold sp_lit; omega
theorem g5_lit {c w : Int32} (h0 : 0 ≤ c.toInt) (h1 : c.toInt ≤ 63) (h2 : 0 ≤ w.toInt) (h3 : w.toInt ≤ 63) : onB (litB c.toInt) w.toInt = decide (w.toInt ≠ c.toInt ∧ (w.toInt / 8 = c.toInt / 8 ∨ w.toInt % 8 = c.toInt % 8)) := by
  have k := lit_on c.toInt.toNat (by omega) w.toInt.toNat (by omega)
  rw [Int.toNat_of_nonneg h0, Int.toNat_of_nonneg h2] at k
  rw [k, decide_eq_decide]; omega
theorem g5_lit0 {c h w : Int32} (ho : onB (litB c.toInt) w.toInt = false) (h0 : 0 ≤ c.toInt) (h1 : c.toInt ≤ 63) (h2 : 0 ≤ h.toInt) (h3 : h.toInt ≤ 23) (h4 : 0 ≤ w.toInt) (h5 : w.toInt ≤ 63) : (0 : Int) = sp_lit c.toInt h.toInt w.toInt := by
  rw [g5_lit h0 h1 h4 h5, decide_eq_false_iff_not] at ho
  unfold sp_lit; omega
theorem g5_lit1 {c h w : Int32} (ho : onB (litB c.toInt) w.toInt = true) (h0 : 0 ≤ c.toInt) (h1 : c.toInt ≤ 63) (h2 : 0 ≤ h.toInt) (h3 : h.toInt ≤ 23) (h4 : 0 ≤ w.toInt) (h5 : w.toInt ≤ 63) : (1 : Int) = sp_lit c.toInt h.toInt w.toInt := by
  rw [g5_lit h0 h1 h4 h5, decide_eq_true_iff] at ho
  unfold sp_lit; omega
def spL_could (h c : Int) : Int64 := if 0 ≤ h ∧ h ≤ 23 ∧ -1 ≤ c ∧ c ≤ 63 then (if c = -1 then 64 else cntF (vp_updL (fun _ => 0) h.toNat (bitI c ^^^ (-1)))) else -1
def spL_tells (c w h : Int) : Int64 := if 0 ≤ c ∧ c ≤ 63 ∧ 0 ≤ w ∧ w ≤ 3 ∧ 0 ≤ h ∧ h ≤ 23 then cntF (fun _ => 0) - cntF (vp_updL (fun _ => 0) h.toNat (rayN 0 (gW w.toNat c) (nW w.toNat c).toNat)) else -1
theorem g5_could {z : Int64} {h c : Int32} (hz : z = cntF (vp_updL (fun _ => 0) h.toNatClampNeg (((1 : Int64) <<< (c.toInt64 &&& 63)) ^^^ (-1)))) (h0 : 0 ≤ h.toInt) (h1 : h.toInt ≤ 23) (h2 : 0 ≤ c.toInt) (h3 : c.toInt ≤ 63) : z = spL_could h.toInt c.toInt := by
  unfold spL_could bitI
  rw [if_pos (by omega), if_neg (by omega), hz, ← g5_nI h2, g5_clamp]
theorem g5_couldN {h c : Int} (hn : ¬ (0 ≤ h ∧ h ≤ 23 ∧ -1 ≤ c ∧ c ≤ 63)) : (-1 : Int64) = spL_could h c := by
  unfold spL_could; rw [if_neg hn]
theorem g5_could64 {h c : Int} (h0 : 0 ≤ h ∧ h ≤ 23) (hc : c = -1) : (64 : Int64) = spL_could h c := by
  unfold spL_could; rw [if_pos (by omega), if_pos hc]
theorem g5_tellsN {c w h : Int} (hn : ¬ (0 ≤ c ∧ c ≤ 63 ∧ 0 ≤ w ∧ w ≤ 3 ∧ 0 ≤ h ∧ h ≤ 23)) : (-1 : Int64) = spL_tells c w h := by
  unfold spL_tells; rw [if_neg hn]
theorem g5_tells {x y : Int64} {f : Nat → Int64} {c w h : Int} {n : Nat} (hv : 0 ≤ c ∧ c ≤ 63 ∧ 0 ≤ w ∧ w ≤ 3 ∧ 0 ≤ h ∧ h ≤ 23) (hx : x = cntF (fun _ => 0)) (k : Nat) (hw : w.toNat = k) (hn : (n : Int) = nW k c) (hf : ∀ j : Nat, f j = vp_updL (fun _ => 0) h.toNat (rayN ((fun _ => (0 : Int64)) h.toNat) (gW k c) n) j) (hy : y = cntF f) : x - y = spL_tells c w h := by
  have e : f = vp_updL (fun _ => 0) h.toNat (rayN 0 (gW k c) n) := funext hf
  unfold spL_tells
  rw [if_pos hv, hx, hy, e, hw, ← hn]; rfl
theorem g5_inc (n : Int32) : (n + 1).toInt = n.toInt + 1 ∨ (n.toInt = 2147483647 ∧ (n + 1).toInt = -2147483648) := by
  have h := g5_rg n
  by_cases e : n.toInt = 2147483647
  · right; refine ⟨e, ?_⟩
    rw [g5_toc (k := 2147483647) (n := 2147483647) (by decide) e]; decide
  · left; exact g5_iadd rfl (by decide) (by omega) (by omega)
theorem g5_cmpeq {x y : Int64} (h : x = y) : lg_cmp x y = 0 := by
  subst h; unfold lg_cmp; rw [if_neg (by simp), if_pos rfl]
theorem g5_a63 (x : Int32) : 0 ≤ (x &&& 63).toInt ∧ (x &&& 63).toInt ≤ 63 := by
  have h2 : (x &&& 63).toBitVec.toNat = x.toBitVec.toNat % 2 ^ 6 := by
    rw [Int32.toBitVec_and, BitVec.toNat_and, show (63 : Int32).toBitVec.toNat = 2 ^ 6 - 1 from by decide, Nat.and_two_pow_sub_one_eq_mod]
  have h3 : (x &&& 63).toInt = ((x &&& 63).toBitVec.toNat : Int) := by
    show (x &&& 63).toBitVec.toInt = _
    rw [BitVec.toInt_eq_toNat_cond, if_pos]
    rw [h2]; omega
  rw [h3, h2]; omega
theorem g5_cmpI (x y : Int64) : (x.toInt < y.toInt ∧ (lg_cmp x y).toInt = -1) ∨ (x.toInt = y.toInt ∧ (lg_cmp x y).toInt = 0) ∨ (x.toInt > y.toInt ∧ (lg_cmp x y).toInt = 1) := by
  unfold lg_cmp
  by_cases h : x > y
  · right; right
    rw [if_pos h]
    exact ⟨Int64.lt_iff_toInt_lt.mp h, by decide⟩
  · rw [if_neg h]
    by_cases e : x = y
    · right; left
      rw [if_pos e, e]; exact ⟨rfl, by decide⟩
    · left
      rw [if_neg e]
      have h1 : ¬ y.toInt < x.toInt := fun q => h (Int64.lt_iff_toInt_lt.mpr q)
      have h2 : x.toInt ≠ y.toInt := fun q => e (Int64.toInt_inj.mp q)
      exact ⟨by omega, by decide⟩
theorem g5_rows {f : Nat → Int32} {k k' v : Int32} {lo hi : Int} (ih : ∀ j : Nat, (j : Int) < k.toInt → lo ≤ (f j).toInt ∧ (f j).toInt ≤ hi) (h0 : 0 ≤ k.toInt) (h1 : k'.toInt = k.toInt + 1) (h2 : lo ≤ v.toInt ∧ v.toInt ≤ hi) : ∀ j : Nat, (j : Int) < k'.toInt → lo ≤ (upd f k.toNatClampNeg v j).toInt ∧ (upd f k.toNatClampNeg v j).toInt ≤ hi := by
  intro j hj
  have e := g5_clamp k
  unfold upd
  by_cases hjk : j = k.toNatClampNeg
  · rw [if_pos hjk]; exact h2
  · rw [if_neg hjk]; exact ih j (by omega)
theorem g5_bm64 {z : Int} (h1 : -9223372036854775808 ≤ z) (h2 : z < 9223372036854775808) : z.bmod (2 ^ 64) = z := by
  rw [Int.bmod_def]; split <;> omega
theorem g5_lsub {x y : Int64} {a b : Int} (hx : x.toInt = a) (hy : y.toInt = b) (h1 : -9223372036854775808 ≤ a - b) (h2 : a - b < 9223372036854775808) : (x - y).toInt = a - b := by
  rw [Int64.toInt_sub, hx, hy]; exact g5_bm64 h1 h2
