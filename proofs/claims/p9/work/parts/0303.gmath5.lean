/-! the one String constant, its bytes; tokens; a law's code -/
def g5_PK (G : g5_G) (q v : Nat) (ws : va_W) (sz : Nat) (U : State) : Prop := g5_P G ws sz U ∧ vk_R "LateGlass$Tokens" 41 g5_tx q U ∧ vk_S 1 [74] [g5_by] (fun _ => q) (fun _ => v) (va_A ws sz) U U.heap
theorem g5_blindK {G : g5_G} {q v : Nat} {ws : va_W} {sz : Nat} {av : List Value} : FrameBlind (va_Pc av (g5_PK G q v ws sz)) := by
  intro a U g mk h
  obtain ⟨h0, h1, h2, h3⟩ := h
  have z : va_Pc av (g5_P G ws sz) a (U.calling g mk a) := g5_blind a U g mk ⟨h0, h1⟩
  exact ⟨z.1, z.2, vk_R.same (u := U) (U := U.calling g mk a) rfl h2, vk_S.moved (u := U) (U := U.calling g mk a) (Vm.Alike.refl U.vm) h3⟩
theorem g5_preSK {G : g5_G} {s : State} {H : Heap} {locs : List Loc} {A : Nat → Prop} {wc : va_W} {As : List Value} {q v : Nat} (hP : va_P G.1 vwCl wc H) (hK : va_K G.1 vwCl (T5 G) s) (hD : va_D A wc) (hN : g5_N s) (hT : g5_S A s s.heap) (hS : va_S A s.heap H locs) (hF : ∀ q, va_A wc H.size q → A q) (hR : vk_R "LateGlass$Tokens" 41 g5_tx q s) (hV : vk_S 1 [74] [g5_by] (fun _ => q) (fun _ => v) A s s.heap) : PreS s H (va_Pc As (g5_PK G q v wc H.size)) As :=
  ⟨g5_blindK, fun U hU hW => ⟨((g5_preS hP hK hD hN hT hS hF).2 U hU hW).1, ((g5_preS hP hK hD hN hT hS hF (As := As)).2 U hU hW).2, hR.warm hW, by rw [hU]; exact ((hV.kept hS.2.1).narrow hF).moved hW.alike⟩⟩
theorem g5_preVK {G : g5_G} {s : State} {H : Heap} {locs : List Loc} {A : Nat → Prop} {wc : va_W} {As : List Value} {q v : Nat} (hP : va_P G.1 vwCl wc H) (hK : va_K G.1 vwCl (T5 G) s) (hD : va_D A wc) (hN : g5_N s) (hT : g5_S A s s.heap) (hS : va_S A s.heap H locs) (hF : ∀ q, va_A wc H.size q → A q) (hR : vk_R "LateGlass$Tokens" 41 g5_tx q s) (hV : vk_S 1 [74] [g5_by] (fun _ => q) (fun _ => v) A s s.heap) : PreV s H "java/lang/String" q (va_Pc (.ref q :: As) (g5_PK G q v wc H.size)) As :=
  ⟨g5_blindK, vk_recv (i := 0) hV (by decide) hS, fun U hU hW => ⟨rfl, ((g5_preS hP hK hD hN hT hS hF (As := As)).2 U hU hW).2, hR.warm hW, by rw [hU]; exact ((hV.kept hS.2.1).narrow hF).moved hW.alike⟩⟩
theorem g_char (x : Int32) : narrow .char (.int ((x.toUInt32 % 65536).toInt32)) = .int ((x.toUInt32 % 65536).toInt32) := by
  show Value.int ((x.toUInt32 % 65536).toInt32.toUInt32.toUInt16.toUInt32.toInt32) = _
  have h1 : (x.toUInt32 % 65536).toInt32.toUInt32 = x.toUInt32 % 65536 := rfl
  rw [h1]
  have h2 : (x.toUInt32 % 65536).toUInt16.toUInt32 = x.toUInt32 % 65536 := by
    apply UInt32.toNat_inj.mp
    rw [UInt16.toNat_toUInt32, UInt32.toNat_toUInt16, UInt32.toNat_mod]
    have e : (65536 : UInt32).toNat = 65536 := rfl
    rw [e]; omega
  rw [h2]
/-- the number that digits spell, given up beyond 1000 -/
def nmb (f : Nat → Int32) : Nat → Nat → Int32 → Int32
  | 0, _, n => n
  | k + 1, a, n => if n.toInt ≤ 1000 then nmb f k (a + 1) (n * 10 + f a - 48) else n
def nmbO (f : Nat → Int32) (a t : Int32) (n : Int32) : Int32 := nmb f (t.toInt - a.toInt).toNat a.toInt.toNat n
theorem nmb_step {f : Nat → Int32} {a a' t n : Int32} (h0 : 0 ≤ a.toInt) (h1 : a.toInt < t.toInt) (hn : n.toInt ≤ 1000) (ha : a'.toInt = a.toInt + 1) : nmbO f a' t (n * 10 + f a.toNatClampNeg - 48) = nmbO f a t n := by
  unfold nmbO
  have e : (t.toInt - a.toInt).toNat = (t.toInt - a'.toInt).toNat + 1 := by omega
  rw [e]
  show _ = (if n.toInt ≤ 1000 then nmb f _ (a.toInt.toNat + 1) (n * 10 + f a.toInt.toNat - 48) else n)
  rw [if_pos hn, g5_clamp, show a'.toInt.toNat = a.toInt.toNat + 1 by omega]
theorem nmb_end {f : Nat → Int32} {a t n : Int32} (h : t.toInt ≤ a.toInt) : n = nmbO f a t n := by
  unfold nmbO
  rw [show (t.toInt - a.toInt).toNat = 0 by omega]; rfl
theorem nmb_over {f : Nat → Int32} {a t n : Int32} (h : 1000 < n.toInt) : n = nmbO f a t n := by
  unfold nmbO
  cases (t.toInt - a.toInt).toNat with
  | zero => rfl
  | succ k => show n = (if n.toInt ≤ 1000 then _ else n); rw [if_neg (by omega)]
/-- a token that is a number holds one of at most 1000 -/
def TOKI (kd nm : Nat → Int32) : Prop := ∀ j : Nat, kd j = 300 → (nm j).toInt ≤ 1000
theorem tok_set {kd nm : Nat → Int32} {i : Nat} {k n : Int32} (h : TOKI kd nm) (hk : k = 300 → n.toInt ≤ 1000) : TOKI (upd kd i k) (upd nm i n) := by
  intro j hj
  unfold upd at hj ⊢
  by_cases e : j = i
  · rw [if_pos e] at hj ⊢; exact hk hj
  · rw [if_neg e] at hj ⊢; exact h j hj
theorem tok_end {kd nm : Nat → Int32} {i : Nat} (h : TOKI kd nm) : TOKI (upd kd i 302) nm := by
  intro j hj
  unfold upd at hj
  by_cases e : j = i
  · rw [if_pos e] at hj; exact absurd hj (by decide)
  · rw [if_neg e] at hj; exact h j hj
/-- a step of a law's code that asks a word asks one of eight -/
def wOK (c : Int32) : Prop := (c >>> (12 &&& 31)).toInt = 1 → (c &&& 4095).toInt < 8
def CDI (f : Nat → Int32) (n : Int) : Prop := ∀ j : Nat, (j : Int) < n → wOK (f j)
def OPK (f g : Nat → Int32) (n : Int) : Prop := ∀ j : Nat, (j : Int) < n → g j >>> (12 &&& 31) = f j >>> (12 &&& 31)
theorem opk_refl {f : Nat → Int32} {n : Int} : OPK f f n := fun _ _ => rfl
theorem opk_trans {f g h : Nat → Int32} {n m : Int} (a : OPK f g n) (b : OPK g h m) (hm : n ≤ m) : OPK f h n := fun j hj => (b j (by omega)).trans (a j hj)
theorem cdi_0 {f : Nat → Int32} {n : Int} (h : n ≤ 0) : CDI f n := fun j hj => absurd hj (by omega)
theorem cdi_emit {f : Nat → Int32} {n n' v : Int32} (h : CDI f n.toInt) (h0 : 0 ≤ n.toInt) (hn : n'.toInt = n.toInt + 1) (hv : wOK v) : CDI (upd f n.toNatClampNeg v) n'.toInt := by
  intro j hj
  have e := g5_clamp n
  unfold upd
  by_cases q : j = n.toNatClampNeg
  · rw [if_pos q]; exact hv
  · rw [if_neg q]; exact h j (by omega)
theorem opk_emit {f : Nat → Int32} {n v : Int32} (h0 : 0 ≤ n.toInt) : OPK f (upd f n.toNatClampNeg v) n.toInt := by
  intro j hj
  have e := g5_clamp n
  unfold upd
  rw [if_neg (by omega)]
theorem g_orsh (c l : Int32) : (c ||| l) >>> ((12 : Int32) &&& 31) = (c >>> ((12 : Int32) &&& 31)) ||| (l >>> ((12 : Int32) &&& 31)) := by
  apply Int32.toBitVec_inj.mp
  rw [Int32.toBitVec_or, Int32.toBitVec_shiftRight, Int32.toBitVec_shiftRight, Int32.toBitVec_shiftRight, Int32.toBitVec_or]
  exact BitVec.sshiftRight_or_distrib _ _ _
theorem g_sh12 (a : Int32) : (a >>> ((12 : Int32) &&& 31)).toInt = a.toInt / 4096 := by
  show (a >>> ((12 : Int32) &&& 31)).toBitVec.toInt = _
  rw [Int32.toBitVec_shiftRight]
  show (a.toBitVec.sshiftRight (((12 : Int32) &&& 31).toBitVec.smod 32).toNat).toInt = _
  rw [BitVec.toInt_sshiftRight, show (((12 : Int32) &&& 31).toBitVec.smod 32).toNat = 12 by decide, Int.shiftRight_eq_div_pow]
  rfl
theorem g_len0 {l : Int32} (h0 : 0 ≤ l.toInt) (h1 : l.toInt ≤ 400) : l >>> ((12 : Int32) &&& 31) = 0 := by
  apply Int32.toInt_inj.mp
  rw [g_sh12, show (0 : Int32).toInt = 0 from by decide]
  omega
/-- a place where a jump stands: its step asks no word -/
def JOK (f : Nat → Int32) (n : Int) (j : Int32) : Prop := 0 ≤ j.toInt → j.toInt < n ∧ (f j.toNatClampNeg >>> (12 &&& 31)).toInt ≠ 1
theorem jok_none {f : Nat → Int32} {n : Int} : JOK f n (-1) := fun h => absurd h (by decide)
theorem jok_opk {f g : Nat → Int32} {n m : Int} {j : Int32} (h : JOK f n j) (o : OPK f g n) (hm : n ≤ m) : JOK g m j := by
  intro h0
  obtain ⟨a, b⟩ := h h0
  have e := g5_clamp j
  refine ⟨by omega, ?_⟩
  rw [o _ (by omega)]; exact b
theorem jok_emit {f : Nat → Int32} {n : Int} {j v : Int32} (h : 0 ≤ j.toInt → j.toInt < n ∧ f j.toNatClampNeg = v) (hv : (v >>> (12 &&& 31)).toInt ≠ 1) : JOK f n j := by
  intro h0
  obtain ⟨a, b⟩ := h h0
  exact ⟨a, by rw [b]; exact hv⟩
theorem opk_jump {f : Nat → Int32} {n : Int} {l j : Int32} (h0 : 0 ≤ l.toInt) (h1 : l.toInt ≤ 400) : OPK f (upd f j.toNatClampNeg (f j.toNatClampNeg ||| l)) n := by
  intro k _
  unfold upd
  by_cases e : k = j.toNatClampNeg
  · rw [if_pos e, g_orsh, g_len0 h0 h1, Int32.or_zero, e]
  · rw [if_neg e]
theorem cdi_jump {f : Nat → Int32} {n : Int} {l j : Int32} (h : CDI f n) (hj : JOK f n j) (hj0 : 0 ≤ j.toInt) (h0 : 0 ≤ l.toInt) (h1 : l.toInt ≤ 400) : CDI (upd f j.toNatClampNeg (f j.toNatClampNeg ||| l)) n := by
  intro k hk
  unfold upd
  by_cases e : k = j.toNatClampNeg
  · rw [if_pos e]
    intro q
    rw [g_orsh, g_len0 h0 h1, Int32.or_zero] at q
    exact absurd q (hj hj0).2
  · rw [if_neg e]; exact h k hk
theorem wok_wordN : ∀ a : Nat, a < 8 → wOK (((1 : Int32) <<< ((12 : Int32) &&& 31)) ||| nI a) := by unfold wOK; decide +kernel
theorem wok_word {a : Int32} (h0 : 0 ≤ a.toInt) (h1 : a.toInt ≤ 7) : wOK (((1 : Int32) <<< ((12 : Int32) &&& 31)) ||| a) := by
  rw [g5_nI h0]; exact wok_wordN _ (by omega)
theorem wok_num {a : Int32} (h : a.toInt ≤ 1000) : wOK (((0 : Int32) <<< ((12 : Int32) &&& 31)) ||| a) := by
  intro q
  rw [show ((0 : Int32) <<< ((12 : Int32) &&& 31)) = 0 from by decide, Int32.zero_or, g_sh12] at q
  omega
theorem wok_wait {w : Int32} (h : w.toInt = 2 ∨ w.toInt = 3) : wOK ((w <<< ((12 : Int32) &&& 31)) ||| 0) := by
  rcases h with h | h
  · rw [g5_toc (k := 2) (by decide) h]; unfold wOK; decide
  · rw [g5_toc (k := 3) (by decide) h]; unfold wOK; decide
theorem toki_num {kd nm : Nat → Int32} (h : TOKI kd nm) {j : Nat} (e : kd j = 300) : (nm j).toInt ≤ 1000 := h j e
