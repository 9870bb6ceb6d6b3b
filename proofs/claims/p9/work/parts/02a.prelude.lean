/-! What every contract here speaks of: the classes' numbers and the five array classes in one variable G; the nest words; a slice of the world. -/
abbrev g5_G : Type := va_G × (Nat → ClassId)
abbrev T5 (G : g5_G) : List (ClassId × FieldType) := [(G.2 0, .int), (G.2 1, .long), (G.2 2, .boolean), (G.2 3, .object "LateGlass$House"), (G.2 4, .object "LateGlass$Law")]
def nw5 : List Cond := [.methodLinkNest RX11 11 yX1_init "LateGlass", .methodLinkNest RX5 11 yX2_init "LateGlass", .methodLinkNest RX11 65 yX4_init "LateGlass", .methodLinkNest RX4 11 yX8_init "LateGlass", .methodLinkNest RX1 62 yX11_isOn "LateGlass", .methodLinkNest RX5 52 yX11_isLook "LateGlass", .methodLinkNest RX5 70 yX11_beside "LateGlass", .methodLinkNest RX5 77 yX11_isOn "LateGlass", .methodLinkNest RX7 98 yX11_isOn "LateGlass", .methodLinkNest RX7 105 yX11_beside "LateGlass", .fieldLinkNest RX7 114 "LateGlass" "HAVING" "[I" "LateGlass", .fieldLinkNest RX7 131 "LateGlass" "LOWEST_FIRST" "[I" "LateGlass", .methodLinkNest RX9 43 yX11_isOn "LateGlass", .fieldLinkNest RX9 64 "LateGlass" "LOWEST_FIRST" "[I" "LateGlass", .methodLinkNest RX9 67 yX11_beside "LateGlass"]
theorem nw5_kind : ∀ w ∈ nw5, (∃ a i x h, w = Cond.methodLinkNest a i x h) ∨ (∃ a i b n d h, w = Cond.fieldLinkNest a i b n d h) := by
  intro w hw
  simp only [nw5, List.mem_cons, List.not_mem_nil, or_false] at hw
  rcases hw with rfl | rfl | rfl | rfl | rfl | rfl | rfl | rfl | rfl | rfl | rfl | rfl | rfl | rfl | rfl <;> first | exact Or.inl ⟨_, _, _, _, rfl⟩ | exact Or.inr ⟨_, _, _, _, _, _, rfl⟩
def g5_N (U : State) : Prop := (∀ w ∈ nw5, va_Nw w U) ∧ va_AO "LateGlass$House" U ∧ va_AO "LateGlass$Law" U ∧ va_Nw (.castable "[I" "java/lang/Cloneable") U
theorem g5_N.warm {s U : State} (hW : s.WarmedH U.vm) (h : g5_N s) : g5_N U := by
  refine ⟨?_, va_AO.moved hW.alike h.2.1, va_AO.moved hW.alike h.2.2.1, va_Nw.warmC hW h.2.2.2⟩
  have h := h.1
  intro w hw
  rcases nw5_kind w hw with ⟨a, i, x, b, rfl⟩ | ⟨a, i, b, n, d, k, rfl⟩
  · exact va_Nw.warmM hW (h _ hw)
  · exact va_Nw.warmF hW (h _ hw)
theorem g5_N.same {s U : State} (e : s.vm = U.vm) (h : g5_N s) : g5_N U := by
  have ha : s.vm.Alike U.vm := by rw [← e]; exact Vm.Alike.refl s.vm
  refine ⟨?_, va_AO.moved ha h.2.1, va_AO.moved ha h.2.2.1, va_Nw.same rfl e h.2.2.2⟩
  have h := h.1
  intro w hw
  rcases nw5_kind w hw with ⟨a, i, x, b, rfl⟩ | ⟨a, i, b, n, d, k, rfl⟩
  · exact va_Nw.same rfl e (h _ hw)
  · exact va_Nw.same rfl e (h _ hw)
theorem g5_nw_X11_11 : Cond.methodLinkNest RX11 11 yX1_init "LateGlass" ∈ nw5 := List.mem_of_getElem? (i := 0) rfl
theorem g5_nw_X5_11 : Cond.methodLinkNest RX5 11 yX2_init "LateGlass" ∈ nw5 := List.mem_of_getElem? (i := 1) rfl
theorem g5_nw_X11_65 : Cond.methodLinkNest RX11 65 yX4_init "LateGlass" ∈ nw5 := List.mem_of_getElem? (i := 2) rfl
theorem g5_nw_X4_11 : Cond.methodLinkNest RX4 11 yX8_init "LateGlass" ∈ nw5 := List.mem_of_getElem? (i := 3) rfl
theorem g5_nw_X1_62 : Cond.methodLinkNest RX1 62 yX11_isOn "LateGlass" ∈ nw5 := List.mem_of_getElem? (i := 4) rfl
theorem g5_nw_X5_52 : Cond.methodLinkNest RX5 52 yX11_isLook "LateGlass" ∈ nw5 := List.mem_of_getElem? (i := 5) rfl
theorem g5_nw_X5_70 : Cond.methodLinkNest RX5 70 yX11_beside "LateGlass" ∈ nw5 := List.mem_of_getElem? (i := 6) rfl
theorem g5_nw_X5_77 : Cond.methodLinkNest RX5 77 yX11_isOn "LateGlass" ∈ nw5 := List.mem_of_getElem? (i := 7) rfl
theorem g5_nw_X7_98 : Cond.methodLinkNest RX7 98 yX11_isOn "LateGlass" ∈ nw5 := List.mem_of_getElem? (i := 8) rfl
theorem g5_nw_X7_105 : Cond.methodLinkNest RX7 105 yX11_beside "LateGlass" ∈ nw5 := List.mem_of_getElem? (i := 9) rfl
theorem g5_nw_X7_114 : Cond.fieldLinkNest RX7 114 "LateGlass" "HAVING" "[I" "LateGlass" ∈ nw5 := List.mem_of_getElem? (i := 10) rfl
theorem g5_nw_X7_131 : Cond.fieldLinkNest RX7 131 "LateGlass" "LOWEST_FIRST" "[I" "LateGlass" ∈ nw5 := List.mem_of_getElem? (i := 11) rfl
theorem g5_nw_X9_43 : Cond.methodLinkNest RX9 43 yX11_isOn "LateGlass" ∈ nw5 := List.mem_of_getElem? (i := 12) rfl
theorem g5_nw_X9_64 : Cond.fieldLinkNest RX9 64 "LateGlass" "LOWEST_FIRST" "[I" "LateGlass" ∈ nw5 := List.mem_of_getElem? (i := 13) rfl
theorem g5_nw_X9_67 : Cond.methodLinkNest RX9 67 yX11_beside "LateGlass" ∈ nw5 := List.mem_of_getElem? (i := 14) rfl
/-- the two static tables that nobody writes -/
def g5_hav : Nat → Value := fun j => match j with
  | 0 => .int (-1431655766)
  | 1 => .int (-858993460)
  | 2 => .int (-252645136)
  | 3 => .int (-16711936)
  | _ => .int (-65536)
def g5_low : Nat → Value := fun j => match j with
  | 0 => .int 0
  | 1 => .int 3
  | 2 => .int 4
  | 3 => .int 1
  | _ => .int 2
def g5_tx : String := "late dust covers clear if or and not glass x y hour way body steps bright "
def g5_by : List Int32 := [108, 97, 116, 101, 32, 100, 117, 115, 116, 32, 99, 111, 118, 101, 114, 115, 32, 99, 108, 101, 97, 114, 32, 105, 102, 32, 111, 114, 32, 97, 110, 100, 32, 110, 111, 116, 32, 103, 108, 97, 115, 115, 32, 120, 32, 121, 32, 104, 111, 117, 114, 32, 119, 97, 121, 32, 98, 111, 100, 121, 32, 115, 116, 101, 112, 115, 32, 98, 114, 105, 103, 104, 116, 32]
def g5_S (A : Nat → Prop) (U : State) (H : Heap) : Prop := ∃ (tH tL tK tV : Nat) (tF : Option Nat), va_Z "LateGlass" "HAVING" "[I" (.ref tH) A U H ∧ va_T .int tH 5 g5_hav A U H ∧ va_Z "LateGlass" "LOWEST_FIRST" "[I" (.ref tL) A U H ∧ va_T .int tL 5 g5_low A U H ∧ vk_R "LateGlass$Tokens" 41 g5_tx tK U ∧ vk_S 1 [74] [g5_by] (fun _ => tK) (fun _ => tV) A U H ∧ va_Z "java/lang/String" "COMPACT_STRINGS" "Z" (.int 1) A U H ∧ va_Z "jdk/internal/util/Preconditions" "SIOOBE_FORMATTER" "Ljava/util/function/BiFunction;" (va_rf tF) A U H
theorem g5_S.moved {A : Nat → Prop} {u U : State} {H : Heap} (hvm : u.vm.Alike U.vm) (hr : ∀ a : Nat, vk_R "LateGlass$Tokens" 41 g5_tx a u → vk_R "LateGlass$Tokens" 41 g5_tx a U) (h : g5_S A u H) : g5_S A U H := by
  obtain ⟨a, b, c, d, f, h1, h2, h3, h4, h5, h6, h7, h8⟩ := h
  exact ⟨a, b, c, d, f, h1.moved hvm, h2.moved hvm, h3.moved hvm, h4.moved hvm, hr _ h5, h6.moved hvm, h7.moved hvm, h8.moved hvm⟩
theorem g5_S.kept {A : Nat → Prop} {U : State} {H H1 : Heap} (h : g5_S A U H) (hq : ∀ a : Nat, a < H.size → ¬ A a → H1[a]? = H[a]?) : g5_S A U H1 := by
  obtain ⟨a, b, c, d, f, h1, h2, h3, h4, h5, h6, h7, h8⟩ := h
  exact ⟨a, b, c, d, f, h1.kept hq, h2.kept hq, h3.kept hq, h4.kept hq, h5, h6.kept hq, h7.kept hq, h8.kept hq⟩
theorem g5_S.narrow {A B : Nat → Prop} {U : State} {H : Heap} (h : g5_S A U H) (hAB : ∀ q, B q → A q) : g5_S B U H := by
  obtain ⟨a, b, c, d, f, h1, h2, h3, h4, h5, h6, h7, h8⟩ := h
  exact ⟨a, b, c, d, f, h1.narrow hAB, h2.narrow hAB, h3.narrow hAB, h4.narrow hAB, h5, h6.narrow hAB, h7.narrow hAB, h8.narrow hAB⟩
def g5_P (G : g5_G) (ws : va_W) (sz : Nat) (U : State) : Prop := U.heap.size = sz ∧ va_P G.1 vwCl ws U.heap ∧ va_K G.1 vwCl (T5 G) U ∧ va_D (fun _ => True) ws ∧ g5_N U ∧ g5_S (va_A ws sz) U U.heap
def g5_B (G : g5_G) (A : Nat → Prop) (w : va_W) (t : State) : Prop := va_P G.1 vwCl w t.heap ∧ va_D A w
theorem g5_blind {G : g5_G} {ws : va_W} {sz : Nat} {av : List Value} : FrameBlind (va_Pc av (g5_P G ws sz)) := by
  intro a U g mk q
  obtain ⟨q0, q1, qP, qK, qD, qN, qS⟩ := q
  exact ⟨q0, q1, qP, va_K.moved (u := U) (U := U.calling g mk a) (Vm.Alike.refl U.vm) qK, qD, g5_N.same (s := U) (U := U.calling g mk a) rfl qN, g5_S.moved (u := U) (U := U.calling g mk a) (Vm.Alike.refl U.vm) (fun _ h => vk_R.same (u := U) (U := U.calling g mk a) rfl h) qS⟩
theorem g5_preS {G : g5_G} {s : State} {H : Heap} {locs : List Loc} {A : Nat → Prop} {wc : va_W} {As : List Value} (hP : va_P G.1 vwCl wc H) (hK : va_K G.1 vwCl (T5 G) s) (hD : va_D A wc) (hN : g5_N s) (hT : g5_S A s s.heap) (hS : va_S A s.heap H locs) (hF : ∀ q, va_A wc H.size q → A q) : PreS s H (va_Pc As (g5_P G wc H.size)) As :=
  ⟨g5_blind, fun U hU hW => ⟨rfl, by rw [hU], by rw [hU]; exact hP, va_K.moved hW.alike hK, hD.weaken (fun _ _ _ _ => trivial), hN.warm hW, by rw [hU]; exact ((hT.kept hS.2.1).narrow hF).moved hW.alike (fun _ h => h.warm hW)⟩⟩
theorem g5_preV {G : g5_G} {s : State} {H : Heap} {locs : List Loc} {A : Nat → Prop} {wc : va_W} {b : Nat} {As : List Value} {C : String} {T : u_T} {N ci q0 : Nat} {fs : List Value} (hP : va_P G.1 vwCl wc H) (hK : va_K G.1 vwCl (T5 G) s) (hD : va_D A wc) (hN : g5_N s) (hT : g5_S A s s.heap) (hS : va_S A s.heap H locs) (hF : ∀ q, va_A wc H.size q → A q) (he : wc[q0]? = some (b, .inr (ci, fs))) (hc : vwCl[ci]? = some (C, T, N)) : PreV s H C b (va_Pc (.ref b :: As) (g5_P G wc H.size)) As :=
  ⟨g5_blind, va_recv hK hP hc he, fun U hU hW => ⟨rfl, by rw [hU], by rw [hU]; exact hP, va_K.moved hW.alike hK, hD.weaken (fun _ _ _ _ => trivial), hN.warm hW, by rw [hU]; exact ((hT.kept hS.2.1).narrow hF).moved hW.alike (fun _ h => h.warm hW)⟩⟩
theorem g5_same {G : g5_G} {ws : va_W} {H H1 : Heap} (hP : va_P G.1 vwCl ws H) (hk : ∀ q : Nat, q < H.size → ¬ va_A [] H.size q → H1[q]? = H[q]?) : va_P G.1 vwCl ws H1 := by
  refine hP.kept fun k q hq => hk q.1 (hP k q hq).lt (fun h => ?_)
  rcases h with ⟨j, e, h⟩ | h
  · simp at h
  · exact absurd (hP k q hq).lt (Nat.not_lt.mpr h)
/-! ints by their values -/
theorem g5_lt {x y : Int32} {a b : Int} (hx : x.toInt = a) (hy : y.toInt = b) (c : x < y) : a < b := by rw [← hx, ← hy]; exact Int32.lt_iff_toInt_lt.mp c
theorem g5_ltN {x y : Int32} {a b : Int} (hx : x.toInt = a) (hy : y.toInt = b) (c : ¬ x < y) : b ≤ a := by rw [← hx, ← hy]; exact Int.not_lt.mp fun h => c (Int32.lt_iff_toInt_lt.mpr h)
theorem g5_le {x y : Int32} {a b : Int} (hx : x.toInt = a) (hy : y.toInt = b) (c : x ≤ y) : a ≤ b := by rw [← hx, ← hy]; exact Int32.le_iff_toInt_le.mp c
theorem g5_leN {x y : Int32} {a b : Int} (hx : x.toInt = a) (hy : y.toInt = b) (c : ¬ x ≤ y) : b < a := by rw [← hx, ← hy]; exact Int.not_le.mp fun h => c (Int32.le_iff_toInt_le.mpr h)
theorem g5_gt {x y : Int32} {a b : Int} (hx : x.toInt = a) (hy : y.toInt = b) (c : y < x) : b < a := g5_lt hy hx c
theorem g5_gtN {x y : Int32} {a b : Int} (hx : x.toInt = a) (hy : y.toInt = b) (c : ¬ y < x) : a ≤ b := g5_ltN hy hx c
theorem g5_ge {x y : Int32} {a b : Int} (hx : x.toInt = a) (hy : y.toInt = b) (c : y ≤ x) : b ≤ a := g5_le hy hx c
theorem g5_geN {x y : Int32} {a b : Int} (hx : x.toInt = a) (hy : y.toInt = b) (c : ¬ y ≤ x) : a < b := g5_leN hy hx c
theorem g5_eq {x y : Int32} {a b : Int} (hx : x.toInt = a) (hy : y.toInt = b) (c : x = y) : a = b := by rw [← hx, ← hy, c]
theorem g5_eqN {x y : Int32} {a b : Int} (hx : x.toInt = a) (hy : y.toInt = b) (c : ¬ x = y) : a ≠ b := by rw [← hx, ← hy]; exact fun h => c (Int32.toInt_inj.mp h)
theorem g5_ne {x y : Int32} {a b : Int} (hx : x.toInt = a) (hy : y.toInt = b) (c : ¬ x = y) : a ≠ b := g5_eqN hx hy c
theorem g5_neN {x y : Int32} {a b : Int} (hx : x.toInt = a) (hy : y.toInt = b) (c : x = y) : a = b := g5_eq hx hy c
theorem g5_bm {z : Int} (h1 : -2147483648 ≤ z) (h2 : z < 2147483648) : z.bmod (2 ^ 32) = z := by
  rw [Int.bmod_def]; split <;> omega
theorem g5_iadd {x y : Int32} {a b : Int} (hx : x.toInt = a) (hy : y.toInt = b) (h1 : -2147483648 ≤ a + b) (h2 : a + b < 2147483648) : (x + y).toInt = a + b := by
  rw [Int32.toInt_add, hx, hy]; exact g5_bm h1 h2
theorem g5_isub {x y : Int32} {a b : Int} (hx : x.toInt = a) (hy : y.toInt = b) (h1 : -2147483648 ≤ a - b) (h2 : a - b < 2147483648) : (x - y).toInt = a - b := by
  rw [Int32.toInt_sub, hx, hy]; exact g5_bm h1 h2
theorem g5_imul {x y : Int32} {a b : Int} (hx : x.toInt = a) (hy : y.toInt = b) (h1 : -2147483648 ≤ a * b) (h2 : a * b < 2147483648) : (x * y).toInt = a * b := by
  rw [Int32.toInt_mul, hx, hy]; exact g5_bm h1 h2
theorem g5_sh0 (y : UInt64) : ((0 : Int64).toUInt64 >>> y).toInt64 = 0 := by
  have h : (0 : Int64).toUInt64 = 0 := by decide
  rw [h, UInt64.zero_shiftRight]; decide
theorem g5_toc {x k : Int32} {n : Int} (hk : k.toInt = n) (h : x.toInt = n) : x = k := Int32.toInt_inj.mp (h.trans hk.symm)
section G5T
variable {p : Program} {l : Launch} {e : Env} {R : Room} {s : State} {m : MethodId} {args : Array Value} {below : List Frame} {meth : Method} {c : Code} {H : Heap} {locs : List Loc} {cells slots : Nat} {Q : State → Prop} {pc : Nat} {ls : Array Slot} {rest : List Value}
theorem g5_ti {x v : Int32} (h : x = v) (k : W p l e R s m args below meth c H locs cells slots Q (F0 m pc ls (.int v :: rest))) : W p l e R s m args below meth c H locs cells slots Q (F0 m pc ls (.int x :: rest)) := by subst h; exact k
theorem g5_tl {x v : Int64} (h : x = v) (k : W p l e R s m args below meth c H locs cells slots Q (F0 m pc ls (.long v :: rest))) : W p l e R s m args below meth c H locs cells slots Q (F0 m pc ls (.long x :: rest)) := by subst h; exact k
theorem g5_tv {x v : Value} (h : x = v) (k : W p l e R s m args below meth c H locs cells slots Q (F0 m pc ls (v :: rest))) : W p l e R s m args below meth c H locs cells slots Q (F0 m pc ls (x :: rest)) := by subst h; exact k
end G5T
theorem g5_cI {G : g5_G} {s : State} {cA : ClassId} (h : va_K G.1 vwCl (T5 G ++ [(cA, .int)]) s) : cA = G.2 0 := by
  have h1 : s.vm.findClass ("[" ++ FieldType.int.toString) = some cA := (h.2 5 _ rfl).2
  have h2 : s.vm.findClass ("[" ++ FieldType.int.toString) = some (G.2 0) := (h.2 0 _ rfl).2
  exact Option.some.inj (h1.symm.trans h2)
theorem g5_cJ {G : g5_G} {s : State} {cA : ClassId} (h : va_K G.1 vwCl (T5 G ++ [(cA, .long)]) s) : cA = G.2 1 := by
  have h1 : s.vm.findClass ("[" ++ FieldType.long.toString) = some cA := (h.2 5 _ rfl).2
  have h2 : s.vm.findClass ("[" ++ FieldType.long.toString) = some (G.2 1) := (h.2 1 _ rfl).2
  exact Option.some.inj (h1.symm.trans h2)
theorem g5_cZ {G : g5_G} {s : State} {cA : ClassId} (h : va_K G.1 vwCl (T5 G ++ [(cA, .boolean)]) s) : cA = G.2 2 := by
  have h1 : s.vm.findClass ("[" ++ FieldType.boolean.toString) = some cA := (h.2 5 _ rfl).2
  have h2 : s.vm.findClass ("[" ++ FieldType.boolean.toString) = some (G.2 2) := (h.2 2 _ rfl).2
  exact Option.some.inj (h1.symm.trans h2)
theorem g5_cH {G : g5_G} {s : State} {cA : ClassId} (h : va_K G.1 vwCl (T5 G ++ [(cA, .object "LateGlass$House")]) s) : cA = G.2 3 := by
  obtain ⟨k1, c1, a1, a2, a3, h1⟩ := (h.2 5 _ rfl).2
  obtain ⟨k2, c2, b1, b2, b3, h2⟩ := (h.2 3 _ rfl).2
  exact Option.some.inj (h1.symm.trans h2)
theorem g5_cW {G : g5_G} {s : State} {cA : ClassId} (h : va_K G.1 vwCl (T5 G ++ [(cA, .object "LateGlass$Law")]) s) : cA = G.2 4 := by
  obtain ⟨k1, c1, a1, a2, a3, h1⟩ := (h.2 5 _ rfl).2
  obtain ⟨k2, c2, b1, b2, b3, h2⟩ := (h.2 4 _ rfl).2
  exact Option.some.inj (h1.symm.trans h2)
theorem g5_loop {p : Program} {l : Launch} {e : Env} {R : Room} {s : State} {m : MethodId} {args : Array Value} {below : List Frame} {meth : Method} {c : Code} {H : Heap} {locs : List Loc} {cells slots : Nat} {Q : State → Prop} {pc : Nat} {ls : Array Slot} {rest : List Value} {α : Type} (I : α → Array Slot → Heap → List Loc → Prop) (mu : α → Nat) (a0 : α) (h0 : I a0 ls H locs)
    (step : ∀ (a : α) (ls : Array Slot) (H : Heap) (locs : List Loc), I a ls H locs → (∀ (b : α) (ls' : Array Slot) (H' : Heap) (locs' : List Loc), mu b < mu a → I b ls' H' locs' → W p l e R s m args below meth c H' locs' cells slots Q (F0 m pc ls' rest)) → W p l e R s m args below meth c H locs cells slots Q (F0 m pc ls rest)) : W p l e R s m args below meth c H locs cells slots Q (F0 m pc ls rest) := by
  have key : ∀ (n : Nat) (a : α) (ls : Array Slot) (H : Heap) (locs : List Loc), mu a ≤ n → I a ls H locs → W p l e R s m args below meth c H locs cells slots Q (F0 m pc ls rest) := by
    intro n
    induction n with
    | zero => intro a ls H locs hn h; exact step a ls H locs h (fun b _ _ _ hb _ => absurd hb (by omega))
    | succ n ih => intro a ls H locs hn h; exact step a ls H locs h (fun b ls' H' locs' hb h' => ih b ls' H' locs' (by omega) h')
  exact key _ a0 ls H locs (Nat.le_refl _) h0
theorem g5_nn {x : Int32} {a : Int} (hx : x.toInt = a) (h : 0 ≤ a) : x.toBitVec.toInt = (x.toBitVec.toNat : Int) := by
  have h1 : x.toBitVec.toInt = a := hx
  rw [BitVec.toInt_eq_toNat_cond] at h1 ⊢
  split at h1 <;> rename_i hc
  · rw [if_pos hc]
  · have := x.toBitVec.isLt; omega
theorem g5_andk (k : Nat) (hk : k < 31) {x y : Int32} {a : Int} (hy : y.toBitVec.toNat = 2 ^ k - 1) (hx : x.toInt = a) (h : 0 ≤ a) : (x &&& y).toInt = a % (2 ^ k : Nat) := by
  have h1 : x.toInt = (x.toBitVec.toNat : Int) := g5_nn hx h
  have h2 : (x &&& y).toBitVec.toNat = x.toBitVec.toNat % 2 ^ k := by
    rw [Int32.toBitVec_and, BitVec.toNat_and, hy, Nat.and_two_pow_sub_one_eq_mod]
  have h3 : (x &&& y).toInt = ((x &&& y).toBitVec.toNat : Int) := by
    show (x &&& y).toBitVec.toInt = _
    rw [BitVec.toInt_eq_toNat_cond, if_pos]
    rw [h2]
    have h5 : x.toBitVec.toNat % 2 ^ k < 2 ^ k := Nat.mod_lt _ (Nat.two_pow_pos k)
    have h6 : 2 ^ k ≤ 2 ^ 30 := Nat.pow_le_pow_right (by decide) (by omega)
    omega
  rw [h3, h2, ← hx, h1]; exact Int.natCast_emod _ _
theorem g5_and7 {x : Int32} {a : Int} (hx : x.toInt = a) (h : 0 ≤ a) : (x &&& 7).toInt = a % 8 := g5_andk 3 (by decide) (by decide) hx h
theorem g5_and63 {x : Int32} {a : Int} (hx : x.toInt = a) (h : 0 ≤ a) : (x &&& 63).toInt = a % 64 := g5_andk 6 (by decide) (by decide) hx h
theorem g5_and1 {x : Int32} {a : Int} (hx : x.toInt = a) (h : 0 ≤ a) : (x &&& 1).toInt = a % 2 := g5_andk 1 (by decide) (by decide) hx h
theorem g5_and31 {x : Int32} {a : Int} (hx : x.toInt = a) (h : 0 ≤ a) : (x &&& 31).toInt = a % 32 := g5_andk 5 (by decide) (by decide) hx h
theorem g5_and255 {x : Int32} {a : Int} (hx : x.toInt = a) (h : 0 ≤ a) : (x &&& 255).toInt = a % 256 := g5_andk 8 (by decide) (by decide) hx h
theorem g5_rg (x : Int32) : -2147483648 ≤ x.toInt ∧ x.toInt < 2147483648 := by
  have h1 := x.toBitVec.isLt
  have h2 : x.toInt = if 2 * x.toBitVec.toNat < 2 ^ 32 then (x.toBitVec.toNat : Int) else (x.toBitVec.toNat : Int) - (2 ^ 32 : Nat) := BitVec.toInt_eq_toNat_cond _
  rw [h2]; split <;> omega
theorem g5_idiv {x y : Int32} {a b : Int} (hx : x.toInt = a) (hy : y.toInt = b) (h0 : 0 ≤ a) (hb : 0 < b) : (x / y).toInt = a / b := by
  have hr := g5_rg x
  rw [Int32.toInt_div, hx, hy, Int.tdiv_eq_ediv_of_nonneg h0]
  have h1 : 0 ≤ a / b := Int.ediv_nonneg h0 (Int.le_of_lt hb)
  have h2 : a / b ≤ a := Int.ediv_le_self _ h0
  exact g5_bm (by omega) (by omega)
theorem g5_irem {x y : Int32} {a b : Int} (hx : x.toInt = a) (hy : y.toInt = b) (h0 : 0 ≤ a) (hb : 0 < b) : (x - x / y * y).toInt = a % b := by
  have hr := g5_rg x
  have hd := g5_idiv hx hy h0 hb
  have e : a % b = a - a / b * b := by rw [Int.emod_def, Int.mul_comm]
  have h1 : 0 ≤ a % b := Int.emod_nonneg _ (by omega)
  have h2 : 0 ≤ a / b * b := Int.mul_nonneg (Int.ediv_nonneg h0 (Int.le_of_lt hb)) (Int.le_of_lt hb)
  have hm : (x / y * y).toInt = a / b * b := g5_imul hd hy (by omega) (by omega)
  rw [e]
  exact g5_isub hx hm (by omega) (by omega)
/-- the cell next to a cell that way -/
def bs (c w : Int) : Int := if w = 0 then (if 8 ≤ c then c - 8 else -1) else if w = 1 then (if c % 8 < 7 then c + 1 else -1) else if w = 2 then (if c < 56 then c + 8 else -1) else if w = 3 then (if 0 < c % 8 then c - 1 else -1) else c
theorem g5_pts {f : Nat → Int32} {k k' v : Int32} (g : Int → Int) (ih : ∀ j : Nat, (j : Int) < k.toInt → (f j).toInt = g j) (h0 : 0 ≤ k.toInt) (h1 : k'.toInt = k.toInt + 1) (h2 : v.toInt = g k.toInt) : ∀ j : Nat, (j : Int) < k'.toInt → (upd f k.toNatClampNeg v j).toInt = g j := by
  intro j hj
  unfold upd
  have e : k.toNatClampNeg = k.toInt.toNat := rfl
  by_cases hjk : j = k.toNatClampNeg
  · rw [if_pos hjk, h2]; have : (j:Int) = k.toInt := by omega
    rw [this]
  · rw [if_neg hjk]; exact ih j (by omega)
