set_option maxHeartbeats 4000000 in
set_option maxRecDepth 100000 in
theorem k_cellsIn (l : Launch) (G : g5_G) (a_49 a_50 a_51 a_54 a_55 a_56 a_1 a_42 a_52 a_53 : Nat) (sz : Nat) (p_h : Int32) (f_h : Nat → Int32) (f_e : Nat → Int32) (f_l : Nat → Int32) (h_p_h : 0 ≤ p_h.toInt ∧ p_h.toInt ≤ 23) : Met l yX7_cellsIn (wsG yX7_cellsIn cX7_cellsIn 5 (some .long)) ({ frames := 3, cells := 0, slots := 0, locals := 70 }) (va_Pc [.ref a_49, .int p_h] (g5_P G [(a_49, .inr (7, [.ref a_1, .ref a_42, .ref a_50, .ref a_51, .int 0, .ref a_52, .ref a_53, .ref a_54, .ref a_55, .ref a_56])), (a_50, .inl (G.2 1, 24, .inr (.inl (fun _ => 0)))), (a_51, .inl (G.2 0, 1536, .inl (fun _ => 0))), (a_54, .inl (G.2 0, 1536, .inl f_h)), (a_55, .inl (G.2 0, 64, .inl f_e)), (a_56, .inl (G.2 0, 64, .inl f_l))] sz)) (va_Ql (fun (r : Int64) (u : va_W) => ((r = (-1)) ∧ (u = [(a_49, .inr (7, [.ref a_1, .ref a_42, .ref a_50, .ref a_51, .int 0, .ref a_52, .ref a_53, .ref a_54, .ref a_55, .ref a_56])), (a_50, .inl (G.2 1, 24, .inr (.inl (fun _ => 0)))), (a_51, .inl (G.2 0, 1536, .inl (fun _ => 0)))]))) (g5_B G (va_A [(a_49, .inr (7, [.ref a_1, .ref a_42, .ref a_50, .ref a_51, .int 0, .ref a_52, .ref a_53, .ref a_54, .ref a_55, .ref a_56])), (a_50, .inl (G.2 1, 24, .inr (.inl (fun _ => 0)))), (a_51, .inl (G.2 0, 1536, .inl (fun _ => 0))), (a_54, .inl (G.2 0, 1536, .inl f_h)), (a_55, .inl (G.2 0, 64, .inl f_e)), (a_56, .inl (G.2 0, 64, .inl f_l))] sz)) (va_A [(a_49, .inr (7, [.ref a_1, .ref a_42, .ref a_50, .ref a_51, .int 0, .ref a_52, .ref a_53, .ref a_54, .ref a_55, .ref a_56])), (a_50, .inl (G.2 1, 24, .inr (.inl (fun _ => 0)))), (a_51, .inl (G.2 0, 1536, .inl (fun _ => 0))), (a_54, .inl (G.2 0, 1536, .inl f_h)), (a_55, .inl (G.2 0, 64, .inl f_e)), (a_56, .inl (G.2 0, 64, .inl f_l))] sz)) 0 0 (va_A [(a_49, .inr (7, [.ref a_1, .ref a_42, .ref a_50, .ref a_51, .int 0, .ref a_52, .ref a_53, .ref a_54, .ref a_55, .ref a_56])), (a_50, .inl (G.2 1, 24, .inr (.inl (fun _ => 0)))), (a_51, .inl (G.2 0, 1536, .inl (fun _ => 0))), (a_54, .inl (G.2 0, 1536, .inl f_h)), (a_55, .inl (G.2 0, 64, .inl f_e)), (a_56, .inl (G.2 0, 64, .inl f_l))] sz) := by
  refine Met.ofW (cc := cX7_cellsIn) (maxL := 5) (ret := (some .long)) (by decide) rfl ?_
  intro p e s m args below meth c s₁ B hml hv
  obtain ⟨rfl, hsz, hP, hK, hD0, hN, hT⟩ := hv
  have hx := B.exec
  have hb := B.bytes
  have hr := B.returns
  have hts : ∀ w ∈ tblG, w.before _ s = true := fun w h => atoms_spec (ws := (wsG yX7_cellsIn cX7_cellsIn 5 (some .long))) B.pre w (List.mem_cons_of_mem _ h)
  have hown : s.vm.findClass RX7 = some m.cls := findClass_of_methodNamed B.named
  have hlocks := B.notSynchronized
  subst hsz
  have hD := hD0.self (sz := s.heap.size)
  generalize hAe : va_A [(a_49, .inr (7, [.ref a_1, .ref a_42, .ref a_50, .ref a_51, .int 0, .ref a_52, .ref a_53, .ref a_54, .ref a_55, .ref a_56])), (a_50, .inl (G.2 1, 24, .inr (.inl (fun _ => 0)))), (a_51, .inl (G.2 0, 1536, .inl (fun _ => 0))), (a_54, .inl (G.2 0, 1536, .inl f_h)), (a_55, .inl (G.2 0, 64, .inl f_e)), (a_56, .inl (G.2 0, 64, .inl f_l))] s.heap.size = A at hD hT ⊢
  have hA : ∀ q : Nat, s.heap.size ≤ q → A q := fun q h => by rw [← hAe]; exact Or.inr h
  have hS : va_S A s.heap s.heap [] := va_S.rf
  have hP : va_P G.1 vwCl [(a_49, .inr (7, [.ref a_1, .ref a_42, .ref a_50, .ref a_51, .int 0, .ref a_52, .ref a_53, .ref a_54, .ref a_55, .ref a_56])), (a_50, .inl (G.2 1, 24, .inr (.inl (fun _ => 0)))), (a_51, .inl (G.2 0, 1536, .inl (fun _ => 0))), (a_54, .inl (G.2 0, 1536, .inl f_h)), (a_55, .inl (G.2 0, 64, .inl f_e)), (a_56, .inl (G.2 0, 64, .inl f_l))] s.heap := hP
  have hl := lv_entry ([.ref a_49, .int p_h]) (n := 5) (Nat.le_of_ble_eq_true rfl)
  rw [lg_entry_eq]
  generalize (lg_sl ([.ref a_49, .int p_h]) ++ List.replicate (5 - (lg_sl ([.ref a_49, .int p_h])).length) Slot.unset).toArray = ls at hl ⊢
  have hl : lv_has ls 5 [(0, .ref a_49), (1, .int p_h)] := hl
  refine lv_aload_n hx hb dX7_cellsIn_0 rfl (lv_at hl 0 rfl) ?_
  have hPc := hP.sub (ws' := [(a_49, .inr (7, [.ref a_1, .ref a_42, .ref a_50, .ref a_51, .int 0, .ref a_52, .ref a_53, .ref a_54, .ref a_55, .ref a_56])), (a_50, .inl (G.2 1, 24, .inr (.inl (fun _ => 0)))), (a_51, .inl (G.2 0, 1536, .inl (fun _ => 0))), (a_54, .inl (G.2 0, 1536, .inl f_h))]) [0, 1, 2, 3] rfl
  have hDc := hD.sub (ws' := [(a_49, .inr (7, [.ref a_1, .ref a_42, .ref a_50, .ref a_51, .int 0, .ref a_52, .ref a_53, .ref a_54, .ref a_55, .ref a_56])), (a_50, .inl (G.2 1, 24, .inr (.inl (fun _ => 0)))), (a_51, .inl (G.2 0, 1536, .inl (fun _ => 0))), (a_54, .inl (G.2 0, 1536, .inl f_h))]) [0, 1, 2, 3] (by decide) rfl
  have hFc := va_free (wc := [(a_49, .inr (7, [.ref a_1, .ref a_42, .ref a_50, .ref a_51, .int 0, .ref a_52, .ref a_53, .ref a_54, .ref a_55, .ref a_56])), (a_50, .inl (G.2 1, 24, .inr (.inl (fun _ => 0)))), (a_51, .inl (G.2 0, 1536, .inl (fun _ => 0))), (a_54, .inl (G.2 0, 1536, .inl f_h))]) hD hS hA [0, 1, 2, 3] rfl
  refine va_calli (va_runV (As := []) (rest := []) ⟨hx, hb, hml, hown, hts⟩ (k_anyFits l G a_49 a_50 a_51 a_54 a_1 a_42 a_52 a_53 a_55 a_56 s.heap.size f_h) (cwV 0 hts gV_X7_117 rfl rfl rfl hv_X7_anyFits ⟨Nat.le_of_ble_eq_true rfl, Nat.le_of_ble_eq_true rfl⟩) (g5_preV hPc hK hDc hN hT hS hFc (ci := 7) (q0 := 0) rfl rfl) rfl rfl hl.1 rfl (lv_room (Nat.le_of_ble_eq_true rfl)) dX7_cellsIn_1 ⟨Nat.le_of_ble_eq_true rfl, Nat.le_of_ble_eq_true rfl⟩) hS (fun q _ h => hFc q h) hFc (fun r u t H1 locs ht hvm hw hB hz1 hk1 hS => ?_)
  obtain ⟨hP1, hD1⟩ := hB
  rw [ht] at hP1
  obtain ⟨z2, i_1, rfl, rfl⟩ := hw
  have i_1 : ∀ j : Nat, 0 ≤ (j : Int) → (j : Int) < 1536 → z2 j = 1 := i_1
  obtain ⟨hP, hD⟩ := va_join (wr := [(a_55, .inl (G.2 0, 64, .inl f_e)), (a_56, .inl (G.2 0, 64, .inl f_l))]) (w1 := [(a_49, .inr (7, [.ref a_1, .ref a_42, .ref a_50, .ref a_51, .int 0, .ref a_52, .ref a_53, .ref a_54, .ref a_55, .ref a_56])), (a_50, .inl (G.2 1, 24, .inr (.inl (fun _ => 0)))), (a_51, .inl (G.2 0, 1536, .inl (fun _ => 0))), (a_54, .inl (G.2 0, 1536, .inl z2))]) hP hD [0, 1, 2, 3] [4, 5] rfl rfl (by decide) (by decide) hk1 hFc hP1 hD1
  generalize H1 = H at hP hS ⊢
  have hP : va_P G.1 vwCl [(a_55, .inl (G.2 0, 64, .inl f_e)), (a_56, .inl (G.2 0, 64, .inl f_l)), (a_49, .inr (7, [.ref a_1, .ref a_42, .ref a_50, .ref a_51, .int 0, .ref a_52, .ref a_53, .ref a_54, .ref a_55, .ref a_56])), (a_50, .inl (G.2 1, 24, .inr (.inl (fun _ => 0)))), (a_51, .inl (G.2 0, 1536, .inl (fun _ => 0))), (a_54, .inl (G.2 0, 1536, .inl z2))] H := hP
  have hD : va_D A [(a_55, .inl (G.2 0, 64, .inl f_e)), (a_56, .inl (G.2 0, 64, .inl f_l)), (a_49, .inr (7, [.ref a_1, .ref a_42, .ref a_50, .ref a_51, .int 0, .ref a_52, .ref a_53, .ref a_54, .ref a_55, .ref a_56])), (a_50, .inl (G.2 1, 24, .inr (.inl (fun _ => 0)))), (a_51, .inl (G.2 0, 1536, .inl (fun _ => 0))), (a_54, .inl (G.2 0, 1536, .inl z2))] := hD
  refine lv_if_ne (tgt := 9) hx hb dX7_cellsIn_4 (by decide) (fun c_3 => ?_) (fun c_3 => ?_)
  ·
    refine lv_iconst (v := 0) hx hb dX7_cellsIn_9 (by decide) ?_
    refine lv_istore_n (lv' := [(2, .int 0), (0, .ref a_49), (1, .int p_h)]) hx hb dX7_cellsIn_10 rfl hl (by decide) rfl (fun ls hl => ?_)
    refine g5_loop (α := (Int32) × (Nat → Int32)) (fun (q : (Int32) × (Nat → Int32)) (ls : Array Slot) (H : Heap) (locs : List Loc) => match q with | (k_c, k_e) => lv_has ls 5 [(2, .int k_c), (0, .ref a_49), (1, .int p_h)] ∧ va_P G.1 vwCl [(a_55, .inl (G.2 0, 64, .inl k_e)), (a_56, .inl (G.2 0, 64, .inl f_l)), (a_49, .inr (7, [.ref a_1, .ref a_42, .ref a_50, .ref a_51, .int 0, .ref a_52, .ref a_53, .ref a_54, .ref a_55, .ref a_56])), (a_50, .inl (G.2 1, 24, .inr (.inl (fun _ => 0)))), (a_51, .inl (G.2 0, 1536, .inl (fun _ => 0))), (a_54, .inl (G.2 0, 1536, .inl z2))] H ∧ va_D A [(a_55, .inl (G.2 0, 64, .inl k_e)), (a_56, .inl (G.2 0, 64, .inl f_l)), (a_49, .inr (7, [.ref a_1, .ref a_42, .ref a_50, .ref a_51, .int 0, .ref a_52, .ref a_53, .ref a_54, .ref a_55, .ref a_56])), (a_50, .inl (G.2 1, 24, .inr (.inl (fun _ => 0)))), (a_51, .inl (G.2 0, 1536, .inl (fun _ => 0))), (a_54, .inl (G.2 0, 1536, .inl z2))] ∧ va_S A s.heap H locs ∧ (0 ≤ k_c.toInt ∧ k_c.toInt ≤ 64) ∧ (∀ j : Nat, (j : Int) < k_c.toInt → k_e j = (fun _ => 1) j)) (fun (q : (Int32) × (Nat → Int32)) => match q with | (k_c, k_e) => Int.toNat (64 - k_c.toInt)) (0, f_e) ⟨lv_sub hl [0, 1, 2] rfl, hP, hD, hS, ⟨by decide, by decide⟩, fun j h => absurd h (by have z : (0 : Int32).toInt = 0 := (by decide); omega)⟩ ?_
    rintro ⟨k_c, k_e⟩ ls H locs ⟨hl, hP, hD, hS, i_4, i_5⟩ ih_11_6
    have hl : lv_has ls 5 [(2, .int k_c), (0, .ref a_49), (1, .int p_h)] := hl
    have i_4 : 0 ≤ k_c.toInt ∧ k_c.toInt ≤ 64 := i_4
    have i_5 : ∀ j : Nat, (j : Int) < k_c.toInt → k_e j = (fun _ => 1) j := i_5
    have hP : va_P G.1 vwCl [(a_55, .inl (G.2 0, 64, .inl k_e)), (a_56, .inl (G.2 0, 64, .inl f_l)), (a_49, .inr (7, [.ref a_1, .ref a_42, .ref a_50, .ref a_51, .int 0, .ref a_52, .ref a_53, .ref a_54, .ref a_55, .ref a_56])), (a_50, .inl (G.2 1, 24, .inr (.inl (fun _ => 0)))), (a_51, .inl (G.2 0, 1536, .inl (fun _ => 0))), (a_54, .inl (G.2 0, 1536, .inl z2))] H := hP
    have hD : va_D A [(a_55, .inl (G.2 0, 64, .inl k_e)), (a_56, .inl (G.2 0, 64, .inl f_l)), (a_49, .inr (7, [.ref a_1, .ref a_42, .ref a_50, .ref a_51, .int 0, .ref a_52, .ref a_53, .ref a_54, .ref a_55, .ref a_56])), (a_50, .inl (G.2 1, 24, .inr (.inl (fun _ => 0)))), (a_51, .inl (G.2 0, 1536, .inl (fun _ => 0))), (a_54, .inl (G.2 0, 1536, .inl z2))] := hD
    refine lv_iload_n hx hb dX7_cellsIn_11 rfl (lv_at hl 0 rfl) ?_
    refine lv_bipush (v := 64) hx hb dX7_cellsIn_12 (by decide) ?_
    refine lv_icmp_ge (tgt := 47) hx hb dX7_cellsIn_14 (by decide) (fun c_7 => ?_) (fun c_7 => ?_)
    ·
      have i_7 : k_c.toInt ≥ 64 := by have z := g5_ge (a := k_c.toInt) (b := 64) (by rfl) (by decide) c_7; omega
      refine lv_iconst (v := 1) hx hb dX7_cellsIn_47 (by decide) ?_
      refine lv_istore_n (lv' := [(2, .int 1), (0, .ref a_49), (1, .int p_h)]) hx hb dX7_cellsIn_48 rfl hl (by decide) rfl (fun ls hl => ?_)
      refine g5_loop (α := (Int32) × (Nat → Int32) × (Nat → Int32)) (fun (q : (Int32) × (Nat → Int32) × (Nat → Int32)) (ls : Array Slot) (H : Heap) (locs : List Loc) => match q with | (k_l, k_g, k_v) => lv_has ls 5 [(2, .int k_l), (0, .ref a_49), (1, .int p_h)] ∧ va_P G.1 vwCl [(a_55, .inl (G.2 0, 64, .inl k_g)), (a_56, .inl (G.2 0, 64, .inl k_v)), (a_49, .inr (7, [.ref a_1, .ref a_42, .ref a_50, .ref a_51, .int 0, .ref a_52, .ref a_53, .ref a_54, .ref a_55, .ref a_56])), (a_50, .inl (G.2 1, 24, .inr (.inl (fun _ => 0)))), (a_51, .inl (G.2 0, 1536, .inl (fun _ => 0))), (a_54, .inl (G.2 0, 1536, .inl z2))] H ∧ va_D A [(a_55, .inl (G.2 0, 64, .inl k_g)), (a_56, .inl (G.2 0, 64, .inl k_v)), (a_49, .inr (7, [.ref a_1, .ref a_42, .ref a_50, .ref a_51, .int 0, .ref a_52, .ref a_53, .ref a_54, .ref a_55, .ref a_56])), (a_50, .inl (G.2 1, 24, .inr (.inl (fun _ => 0)))), (a_51, .inl (G.2 0, 1536, .inl (fun _ => 0))), (a_54, .inl (G.2 0, 1536, .inl z2))] ∧ va_S A s.heap H locs ∧ (1 ≤ k_l.toInt ∧ k_l.toInt ≤ 24) ∧ (∀ j : Nat, j < 64 → k_g j = 1)) (fun (q : (Int32) × (Nat → Int32) × (Nat → Int32)) => match q with | (k_l, k_g, k_v) => Int.toNat (24 - k_l.toInt)) (1, k_e, f_l) ⟨lv_sub hl [0, 1, 2] rfl, hP, hD, hS, ⟨by decide, by decide⟩, fun j h => i_5 j (by omega)⟩ ?_
      rintro ⟨k_l, k_g, k_v⟩ ls H locs ⟨hl, hP, hD, hS, i_8, i_9⟩ ih_49_10
      have hl : lv_has ls 5 [(2, .int k_l), (0, .ref a_49), (1, .int p_h)] := hl
      have i_8 : 1 ≤ k_l.toInt ∧ k_l.toInt ≤ 24 := i_8
      have i_9 : ∀ j : Nat, j < 64 → k_g j = 1 := i_9
      have hP : va_P G.1 vwCl [(a_55, .inl (G.2 0, 64, .inl k_g)), (a_56, .inl (G.2 0, 64, .inl k_v)), (a_49, .inr (7, [.ref a_1, .ref a_42, .ref a_50, .ref a_51, .int 0, .ref a_52, .ref a_53, .ref a_54, .ref a_55, .ref a_56])), (a_50, .inl (G.2 1, 24, .inr (.inl (fun _ => 0)))), (a_51, .inl (G.2 0, 1536, .inl (fun _ => 0))), (a_54, .inl (G.2 0, 1536, .inl z2))] H := hP
      have hD : va_D A [(a_55, .inl (G.2 0, 64, .inl k_g)), (a_56, .inl (G.2 0, 64, .inl k_v)), (a_49, .inr (7, [.ref a_1, .ref a_42, .ref a_50, .ref a_51, .int 0, .ref a_52, .ref a_53, .ref a_54, .ref a_55, .ref a_56])), (a_50, .inl (G.2 1, 24, .inr (.inl (fun _ => 0)))), (a_51, .inl (G.2 0, 1536, .inl (fun _ => 0))), (a_54, .inl (G.2 0, 1536, .inl z2))] := hD
      refine lv_iload_n hx hb dX7_cellsIn_49 rfl (lv_at hl 0 rfl) ?_
      refine lv_iload_n hx hb dX7_cellsIn_50 rfl (lv_at hl 2 rfl) ?_
      refine lv_icmp_gt (tgt := 65) hx hb dX7_cellsIn_51 (by decide) (fun c_11 => ?_) (fun c_11 => ?_)
      ·
        have i_11 : k_l.toInt > p_h.toInt := by have z := g5_gt (a := k_l.toInt) (b := p_h.toInt) (by rfl) (by rfl) c_11; omega
        refine lv_lconst (v := 0) hx hb dX7_cellsIn_65 (by decide) ?_
        refine lv_lstore_n (lv' := [(2, .long 0), (0, .ref a_49), (1, .int p_h)]) hx hb dX7_cellsIn_66 rfl hl (by decide) rfl (fun ls hl => ?_)
        refine lv_iconst (v := 0) hx hb dX7_cellsIn_67 (by decide) ?_
        refine lv_istore (lv' := [(4, .int 0), (2, .long 0), (0, .ref a_49), (1, .int p_h)]) hx hb dX7_cellsIn_68 hl (by decide) rfl (fun ls hl => ?_)
        refine g5_loop (α := (Int32) × (Int64)) (fun (q : (Int32) × (Int64)) (ls : Array Slot) (H : Heap) (locs : List Loc) => match q with | (k_i, k_b) => lv_has ls 5 [(2, .long k_b), (4, .int k_i), (0, .ref a_49), (1, .int p_h)] ∧ va_P G.1 vwCl [(a_55, .inl (G.2 0, 64, .inl k_g)), (a_56, .inl (G.2 0, 64, .inl k_v)), (a_49, .inr (7, [.ref a_1, .ref a_42, .ref a_50, .ref a_51, .int 0, .ref a_52, .ref a_53, .ref a_54, .ref a_55, .ref a_56])), (a_50, .inl (G.2 1, 24, .inr (.inl (fun _ => 0)))), (a_51, .inl (G.2 0, 1536, .inl (fun _ => 0))), (a_54, .inl (G.2 0, 1536, .inl z2))] H ∧ va_D A [(a_55, .inl (G.2 0, 64, .inl k_g)), (a_56, .inl (G.2 0, 64, .inl k_v)), (a_49, .inr (7, [.ref a_1, .ref a_42, .ref a_50, .ref a_51, .int 0, .ref a_52, .ref a_53, .ref a_54, .ref a_55, .ref a_56])), (a_50, .inl (G.2 1, 24, .inr (.inl (fun _ => 0)))), (a_51, .inl (G.2 0, 1536, .inl (fun _ => 0))), (a_54, .inl (G.2 0, 1536, .inl z2))] ∧ va_S A s.heap H locs ∧ (0 ≤ k_i.toInt ∧ k_i.toInt ≤ 64) ∧ (k_b = fullN k_i.toInt.toNat)) (fun (q : (Int32) × (Int64)) => match q with | (k_i, k_b) => Int.toNat (64 - k_i.toInt)) (0, 0) ⟨lv_sub hl [1, 0, 2, 3] rfl, hP, hD, hS, ⟨by decide, by decide⟩, rfl⟩ ?_
        rintro ⟨k_i, k_b⟩ ls H locs ⟨hl, hP, hD, hS, i_12, i_13⟩ ih_70_14
        have hl : lv_has ls 5 [(2, .long k_b), (4, .int k_i), (0, .ref a_49), (1, .int p_h)] := hl
        have i_12 : 0 ≤ k_i.toInt ∧ k_i.toInt ≤ 64 := i_12
        have i_13 : k_b = fullN k_i.toInt.toNat := i_13
        have hP : va_P G.1 vwCl [(a_55, .inl (G.2 0, 64, .inl k_g)), (a_56, .inl (G.2 0, 64, .inl k_v)), (a_49, .inr (7, [.ref a_1, .ref a_42, .ref a_50, .ref a_51, .int 0, .ref a_52, .ref a_53, .ref a_54, .ref a_55, .ref a_56])), (a_50, .inl (G.2 1, 24, .inr (.inl (fun _ => 0)))), (a_51, .inl (G.2 0, 1536, .inl (fun _ => 0))), (a_54, .inl (G.2 0, 1536, .inl z2))] H := hP
        have hD : va_D A [(a_55, .inl (G.2 0, 64, .inl k_g)), (a_56, .inl (G.2 0, 64, .inl k_v)), (a_49, .inr (7, [.ref a_1, .ref a_42, .ref a_50, .ref a_51, .int 0, .ref a_52, .ref a_53, .ref a_54, .ref a_55, .ref a_56])), (a_50, .inl (G.2 1, 24, .inr (.inl (fun _ => 0)))), (a_51, .inl (G.2 0, 1536, .inl (fun _ => 0))), (a_54, .inl (G.2 0, 1536, .inl z2))] := hD
        refine lv_iload hx hb dX7_cellsIn_70 (lv_at hl 1 rfl) ?_
        refine lv_bipush (v := 64) hx hb dX7_cellsIn_72 (by decide) ?_
        refine lv_icmp_ge (tgt := 113) hx hb dX7_cellsIn_74 (by decide) (fun c_15 => ?_) (fun c_15 => ?_)
        ·
          have i_15 : k_i.toInt ≥ 64 := by have z := g5_ge (a := k_i.toInt) (b := 64) (by rfl) (by decide) c_15; omega
          refine lv_lload_n hx hb dX7_cellsIn_113 rfl (lv_at hl 0 rfl) ?_
          refine g5_tl (v := (-1)) (g5_full64 i_13 (by omega)) ?_
          exact W.lret (v := (-1)) hx hb hr (fun t ht hW => ⟨⟨(-1), [(a_49, .inr (7, [.ref a_1, .ref a_42, .ref a_50, .ref a_51, .int 0, .ref a_52, .ref a_53, .ref a_54, .ref a_55, .ref a_56])), (a_50, .inl (G.2 1, 24, .inr (.inl (fun _ => 0)))), (a_51, .inl (G.2 0, 1536, .inl (fun _ => 0)))], rfl, ⟨rfl, rfl⟩, by rw [ht]; exact hP.sub [2, 3, 4] rfl, hD.sub [2, 3, 4] (by decide) rfl⟩, hS.F ht⟩) hS.2.2 dX7_cellsIn_114
        ·
          have i_15 : k_i.toInt < 64 := by have z := g5_geN (a := k_i.toInt) (b := 64) (by rfl) (by decide) c_15; omega
          refine lv_aload_n hx hb dX7_cellsIn_77 rfl (lv_at hl 2 rfl) ?_
          refine va_get (D := G.1) (ci := 7) (v := .ref a_55) (C := RX7) (T := TX7) (N := 10) hx hb hts inG_X7 hown hK hP 2 rfl rfl 8 (by decide) (hts _ fl_X7_28) (fun _ h9 => h9) rfl dX7_cellsIn_78 ?_
          refine lv_iload hx hb dX7_cellsIn_81 (lv_at hl 1 rfl) ?_
          refine va_iald hx hb hK hP 0 0 rfl rfl (i := k_i) (vp_in_iff.mpr ⟨by omega, by omega⟩) dX7_cellsIn_83 ?_
          refine g5_ti (v := 1) (i_9 _ (by have z := g5_clamp k_i; omega)) ?_
          refine lv_aload_n hx hb dX7_cellsIn_84 rfl (lv_at hl 2 rfl) ?_
          refine va_get (D := G.1) (ci := 7) (v := .ref a_54) (C := RX7) (T := TX7) (N := 10) hx hb hts inG_X7 hown hK hP 2 rfl rfl 7 (by decide) (hts _ fl_X7_25) (fun _ h9 => h9) rfl dX7_cellsIn_85 ?_
          refine lv_iload_n hx hb dX7_cellsIn_88 rfl (lv_at hl 3 rfl) ?_
          refine lv_bipush (v := 64) hx hb dX7_cellsIn_89 (by decide) ?_
          refine lv_imul hx hb dX7_cellsIn_91 ?_
          have t_16 : (p_h * 64).toInt = p_h.toInt * 64 := g5_imul (a := p_h.toInt) (b := 64) (by rfl) (by decide) (by omega) (by omega)
          refine lv_iload hx hb dX7_cellsIn_92 (lv_at hl 1 rfl) ?_
          refine lv_iadd hx hb dX7_cellsIn_94 ?_
          have t_17 : ((p_h * 64) + k_i).toInt = (p_h * 64).toInt + k_i.toInt := g5_iadd (a := (p_h * 64).toInt) (b := k_i.toInt) (by rfl) (by rfl) (by omega) (by omega)
          refine va_iald hx hb hK hP 5 0 rfl rfl (i := ((p_h * 64) + k_i)) (vp_in_iff.mpr ⟨by omega, by omega⟩) dX7_cellsIn_95 ?_
          refine g5_ti (v := 1) (i_1 _ (by have z := g5_clamp ((p_h * 64) + k_i); omega) (by have z := g5_clamp ((p_h * 64) + k_i); omega)) ?_
          refine lv_iand hx hb dX7_cellsIn_96 ?_
          refine g5_ti (v := 1) (by decide) ?_
          refine lv_if_eq (tgt := 107) hx hb dX7_cellsIn_97 (by decide) (fun c_18 => ?_) (fun c_18 => ?_)
          ·
            exact absurd c_18 (by decide)
          ·
            refine lv_lload_n hx hb dX7_cellsIn_100 rfl (lv_at hl 0 rfl) ?_
            refine lv_lconst (v := 1) hx hb dX7_cellsIn_101 (by decide) ?_
            refine lv_iload hx hb dX7_cellsIn_102 (lv_at hl 1 rfl) ?_
            refine lv_lshl (v := ((1 : Int64) <<< (k_i.toInt64 &&& 63))) hx hb dX7_cellsIn_104 rfl ?_
            refine lv_lor hx hb dX7_cellsIn_105 ?_
            refine lv_lstore_n (lv' := [(2, .long (k_b ||| ((1 : Int64) <<< (k_i.toInt64 &&& 63)))), (4, .int k_i), (0, .ref a_49), (1, .int p_h)]) hx hb dX7_cellsIn_106 rfl hl (by decide) rfl (fun ls hl => ?_)
            refine lv_iinc (v := (k_i + 1)) (lv' := [(4, .int (k_i + 1)), (2, .long (k_b ||| ((1 : Int64) <<< (k_i.toInt64 &&& 63)))), (0, .ref a_49), (1, .int p_h)]) hx hb dX7_cellsIn_107 hl (k := 1) rfl rfl (by decide) rfl (fun ls hl => ?_)
            have t_19 : (k_i + 1).toInt = k_i.toInt + 1 := g5_iadd (a := k_i.toInt) (b := 1) rfl (by decide) (by omega) (by omega)
            refine lv_goto (tgt := 70) hx hb dX7_cellsIn_110 (by decide) ?_
            exact ih_70_14 ((k_i + 1), (k_b ||| ((1 : Int64) <<< (k_i.toInt64 &&& 63)))) ls H locs (show Int.toNat (64 - (k_i + 1).toInt) < Int.toNat (64 - k_i.toInt) by omega) ⟨lv_sub hl [1, 0, 2, 3] rfl, hP, hD, hS, ⟨by omega, by omega⟩, g5_full i_13 (by omega) (by omega)⟩
      ·
        have i_11 : k_l.toInt ≤ p_h.toInt := by have z := g5_gtN (a := k_l.toInt) (b := p_h.toInt) (by rfl) (by rfl) c_11; omega
        refine lv_aload_n hx hb dX7_cellsIn_54 rfl (lv_at hl 1 rfl) ?_
        refine lv_iload_n hx hb dX7_cellsIn_55 rfl (lv_at hl 0 rfl) ?_
        have hPc := hP.sub (ws' := [(a_49, .inr (7, [.ref a_1, .ref a_42, .ref a_50, .ref a_51, .int 0, .ref a_52, .ref a_53, .ref a_54, .ref a_55, .ref a_56])), (a_50, .inl (G.2 1, 24, .inr (.inl (fun _ => 0)))), (a_51, .inl (G.2 0, 1536, .inl (fun _ => 0))), (a_55, .inl (G.2 0, 64, .inl k_g)), (a_56, .inl (G.2 0, 64, .inl k_v))]) [2, 3, 4, 0, 1] rfl
        have hDc := hD.sub (ws' := [(a_49, .inr (7, [.ref a_1, .ref a_42, .ref a_50, .ref a_51, .int 0, .ref a_52, .ref a_53, .ref a_54, .ref a_55, .ref a_56])), (a_50, .inl (G.2 1, 24, .inr (.inl (fun _ => 0)))), (a_51, .inl (G.2 0, 1536, .inl (fun _ => 0))), (a_55, .inl (G.2 0, 64, .inl k_g)), (a_56, .inl (G.2 0, 64, .inl k_v))]) [2, 3, 4, 0, 1] (by decide) rfl
        have hFc := va_free (wc := [(a_49, .inr (7, [.ref a_1, .ref a_42, .ref a_50, .ref a_51, .int 0, .ref a_52, .ref a_53, .ref a_54, .ref a_55, .ref a_56])), (a_50, .inl (G.2 1, 24, .inr (.inl (fun _ => 0)))), (a_51, .inl (G.2 0, 1536, .inl (fun _ => 0))), (a_55, .inl (G.2 0, 64, .inl k_g)), (a_56, .inl (G.2 0, 64, .inl k_v))]) hD hS hA [2, 3, 4, 0, 1] rfl
        refine va_callv (va_runV (As := [.int k_l]) (rest := []) ⟨hx, hb, hml, hown, hts⟩ (k_holdIn l G a_49 a_50 a_51 a_55 a_56 a_1 a_42 a_52 a_53 a_54 H.size k_l k_g k_v ⟨by omega, by omega⟩ (i_9)) (cwV 1 hts gV_X7_121 rfl rfl rfl hv_X7_holdIn ⟨Nat.le_of_ble_eq_true rfl, Nat.le_of_ble_eq_true rfl⟩) (g5_preV hPc hK hDc hN hT hS hFc (ci := 7) (q0 := 0) rfl rfl) rfl rfl hl.1 rfl (lv_room (Nat.le_of_ble_eq_true rfl)) dX7_cellsIn_56 ⟨Nat.le_of_ble_eq_true rfl, Nat.le_of_ble_eq_true rfl⟩) hS (fun q _ h => hFc q h) hFc (fun u t H1 locs ht hvm hw hB hz1 hk1 hS => ?_)
        obtain ⟨hP1, hD1⟩ := hB
        rw [ht] at hP1
        obtain ⟨z21, z22, i_20, rfl⟩ := hw
        have i_20 : ∀ j : Nat, j < 64 → z21 j = 1 := i_20
        obtain ⟨hP, hD⟩ := va_join (wr := [(a_54, .inl (G.2 0, 1536, .inl z2))]) (w1 := [(a_49, .inr (7, [.ref a_1, .ref a_42, .ref a_50, .ref a_51, .int 0, .ref a_52, .ref a_53, .ref a_54, .ref a_55, .ref a_56])), (a_50, .inl (G.2 1, 24, .inr (.inl (fun _ => 0)))), (a_51, .inl (G.2 0, 1536, .inl (fun _ => 0))), (a_55, .inl (G.2 0, 64, .inl z21)), (a_56, .inl (G.2 0, 64, .inl z22))]) hP hD [2, 3, 4, 0, 1] [5] rfl rfl (by decide) (by decide) hk1 hFc hP1 hD1
        generalize H1 = H at hP hS ⊢
        have hP : va_P G.1 vwCl [(a_54, .inl (G.2 0, 1536, .inl z2)), (a_49, .inr (7, [.ref a_1, .ref a_42, .ref a_50, .ref a_51, .int 0, .ref a_52, .ref a_53, .ref a_54, .ref a_55, .ref a_56])), (a_50, .inl (G.2 1, 24, .inr (.inl (fun _ => 0)))), (a_51, .inl (G.2 0, 1536, .inl (fun _ => 0))), (a_55, .inl (G.2 0, 64, .inl z21)), (a_56, .inl (G.2 0, 64, .inl z22))] H := hP
        have hD : va_D A [(a_54, .inl (G.2 0, 1536, .inl z2)), (a_49, .inr (7, [.ref a_1, .ref a_42, .ref a_50, .ref a_51, .int 0, .ref a_52, .ref a_53, .ref a_54, .ref a_55, .ref a_56])), (a_50, .inl (G.2 1, 24, .inr (.inl (fun _ => 0)))), (a_51, .inl (G.2 0, 1536, .inl (fun _ => 0))), (a_55, .inl (G.2 0, 64, .inl z21)), (a_56, .inl (G.2 0, 64, .inl z22))] := hD
        refine lv_iinc (v := (k_l + 1)) (lv' := [(2, .int (k_l + 1)), (0, .ref a_49), (1, .int p_h)]) hx hb dX7_cellsIn_59 hl (k := 0) rfl rfl (by decide) rfl (fun ls hl => ?_)
        have t_23 : (k_l + 1).toInt = k_l.toInt + 1 := g5_iadd (a := k_l.toInt) (b := 1) rfl (by decide) (by omega) (by omega)
        refine lv_goto (tgt := 49) hx hb dX7_cellsIn_62 (by decide) ?_
        exact ih_49_10 ((k_l + 1), z21, z22) ls H locs (show Int.toNat (24 - (k_l + 1).toInt) < Int.toNat (24 - k_l.toInt) by omega) ⟨lv_sub hl [0, 1, 2] rfl, hP.sub [4, 5, 1, 2, 3, 0] rfl, hD.sub [4, 5, 1, 2, 3, 0] (by decide) rfl, hS, ⟨by omega, by omega⟩, i_20⟩
    ·
      have i_7 : k_c.toInt < 64 := by have z := g5_geN (a := k_c.toInt) (b := 64) (by rfl) (by decide) c_7; omega
      refine lv_aload_n hx hb dX7_cellsIn_17 rfl (lv_at hl 1 rfl) ?_
      refine va_get (D := G.1) (ci := 7) (v := .ref a_55) (C := RX7) (T := TX7) (N := 10) hx hb hts inG_X7 hown hK hP 2 rfl rfl 8 (by decide) (hts _ fl_X7_28) (fun _ h9 => h9) rfl dX7_cellsIn_18 ?_
      refine lv_iload_n hx hb dX7_cellsIn_21 rfl (lv_at hl 0 rfl) ?_
      refine lv_aload_n hx hb dX7_cellsIn_22 rfl (lv_at hl 1 rfl) ?_
      refine va_get (D := G.1) (ci := 7) (v := .ref a_50) (C := RX7) (T := TX7) (N := 10) hx hb hts inG_X7 hown hK hP 2 rfl rfl 2 (by decide) (hts _ fl_X7_9) (fun _ h9 => h9) rfl dX7_cellsIn_23 ?_
      refine lv_iconst (v := 0) hx hb dX7_cellsIn_26 (by decide) ?_
      refine va_lald hx hb hK hP 3 1 rfl rfl (i := 0) (by unfold vp_in; decide) dX7_cellsIn_27 ?_
      refine g5_tl (v := 0) rfl ?_
      refine lv_iload_n hx hb dX7_cellsIn_28 rfl (lv_at hl 0 rfl) ?_
      have hPc := hP.sub (ws' := []) [] rfl
      have hDc := hD.sub (ws' := []) [] (by decide) rfl
      have hFc := va_free (wc := []) hD hS hA [] rfl
      refine va_calli (va_runSN (As := [.long 0, .int k_c]) (rest := [.int k_c, .ref a_55]) ⟨hx, hb, hml, hown, hts⟩ (kX11_isOn_5 l G H.size k_c ⟨by omega, by omega⟩) ⟨va_cnB 2 hts gW_X11_isOn rfl rfl rfl (hN.1 _ g5_nw_X7_98) (hts _ ini_X11) hs_X11_isOn ⟨Nat.le_of_ble_eq_true rfl, Nat.le_of_ble_eq_true rfl⟩, hts _ st_X11_isOn, trivial⟩ (g5_preS hPc hK hDc hN hT hS hFc) rfl rfl hl.1 rfl (lv_room (Nat.le_of_ble_eq_true rfl)) dX7_cellsIn_29 ⟨Nat.le_of_ble_eq_true rfl, Nat.le_of_ble_eq_true rfl⟩) hS (fun q _ h => hFc q h) hFc (fun r u t H1 locs ht hvm hw hB hz1 hk1 hS => ?_)
      obtain ⟨hP1, hD1⟩ := hB
      rw [ht] at hP1
      obtain ⟨rfl, rfl⟩ := hw
      have hP := g5_same hP hk1
      generalize H1 = H at hP hS ⊢
      refine lv_if_eq (tgt := 39) hx hb dX7_cellsIn_32 (by decide) (fun c_24 => ?_) (fun c_24 => ?_)
      ·
        refine lv_iconst (v := 1) hx hb dX7_cellsIn_39 (by decide) ?_
        refine va_iast hx hb hK hP hD hS 0 0 rfl rfl (i := k_c) (x := 1) (vp_in_iff.mpr ⟨by omega, by omega⟩) dX7_cellsIn_40 (fun H locs hP hD hS => ?_)
        have hP : va_P G.1 vwCl [(a_55, .inl (G.2 0, 64, .inl (upd k_e k_c.toNatClampNeg 1))), (a_56, .inl (G.2 0, 64, .inl f_l)), (a_49, .inr (7, [.ref a_1, .ref a_42, .ref a_50, .ref a_51, .int 0, .ref a_52, .ref a_53, .ref a_54, .ref a_55, .ref a_56])), (a_50, .inl (G.2 1, 24, .inr (.inl (fun _ => 0)))), (a_51, .inl (G.2 0, 1536, .inl (fun _ => 0))), (a_54, .inl (G.2 0, 1536, .inl z2))] H := hP
        have hD : va_D A [(a_55, .inl (G.2 0, 64, .inl (upd k_e k_c.toNatClampNeg 1))), (a_56, .inl (G.2 0, 64, .inl f_l)), (a_49, .inr (7, [.ref a_1, .ref a_42, .ref a_50, .ref a_51, .int 0, .ref a_52, .ref a_53, .ref a_54, .ref a_55, .ref a_56])), (a_50, .inl (G.2 1, 24, .inr (.inl (fun _ => 0)))), (a_51, .inl (G.2 0, 1536, .inl (fun _ => 0))), (a_54, .inl (G.2 0, 1536, .inl z2))] := hD
        refine lv_iinc (v := (k_c + 1)) (lv' := [(2, .int (k_c + 1)), (0, .ref a_49), (1, .int p_h)]) hx hb dX7_cellsIn_41 hl (k := 0) rfl rfl (by decide) rfl (fun ls hl => ?_)
        have t_25 : (k_c + 1).toInt = k_c.toInt + 1 := g5_iadd (a := k_c.toInt) (b := 1) rfl (by decide) (by omega) (by omega)
        refine lv_goto (tgt := 11) hx hb dX7_cellsIn_44 (by decide) ?_
        exact ih_11_6 ((k_c + 1), (upd k_e k_c.toNatClampNeg 1)) ls H locs (show Int.toNat (64 - (k_c + 1).toInt) < Int.toNat (64 - k_c.toInt) by omega) ⟨lv_sub hl [0, 1, 2] rfl, hP, hD, hS, ⟨by omega, by omega⟩, g5_fillI i_5 (by omega) (by omega) rfl⟩
      ·
        exact absurd c_24 (by decide)
  ·
    exact absurd c_3 (by decide)
theorem dX7_lowestNext_0 : decode cX7_lowestNext 0 = .ok (.iconst 0, 1) := by decide +kernel
theorem dX7_lowestNext_1 : decode cX7_lowestNext 1 = .ok (.istore 4, 2) := by decide +kernel
theorem dX7_lowestNext_3 : decode cX7_lowestNext 3 = .ok (.iload 4, 2) := by decide +kernel
theorem dX7_lowestNext_5 : decode cX7_lowestNext 5 = .ok (.getstatic 131, 3) := by decide +kernel
theorem dX7_lowestNext_8 : decode cX7_lowestNext 8 = .ok (.arraylength, 1) := by decide +kernel
theorem dX7_lowestNext_9 : decode cX7_lowestNext 9 = .ok (.if_icmp .ge 49, 3) := by decide +kernel
theorem dX7_lowestNext_12 : decode cX7_lowestNext 12 = .ok (.iload_n 1, 1) := by decide +kernel
theorem dX7_lowestNext_13 : decode cX7_lowestNext 13 = .ok (.getstatic 131, 3) := by decide +kernel
theorem dX7_lowestNext_16 : decode cX7_lowestNext 16 = .ok (.iload 4, 2) := by decide +kernel
theorem dX7_lowestNext_18 : decode cX7_lowestNext 18 = .ok (.iaload, 1) := by decide +kernel
theorem dX7_lowestNext_19 : decode cX7_lowestNext 19 = .ok (.invokestatic 105, 3) := by decide +kernel
theorem dX7_lowestNext_22 : decode cX7_lowestNext 22 = .ok (.istore 5, 2) := by decide +kernel
theorem dX7_lowestNext_24 : decode cX7_lowestNext 24 = .ok (.iload 5, 2) := by decide +kernel
theorem dX7_lowestNext_26 : decode cX7_lowestNext 26 = .ok (.iconst (-1), 1) := by decide +kernel
theorem dX7_lowestNext_27 : decode cX7_lowestNext 27 = .ok (.if_icmp .eq 25, 3) := by decide +kernel
theorem dX7_lowestNext_30 : decode cX7_lowestNext 30 = .ok (.aload_n 0, 1) := by decide +kernel
theorem dX7_lowestNext_31 : decode cX7_lowestNext 31 = .ok (.getfield 25, 3) := by decide +kernel
theorem dX7_lowestNext_34 : decode cX7_lowestNext 34 = .ok (.iload_n 2, 1) := by decide +kernel
theorem dX7_lowestNext_35 : decode cX7_lowestNext 35 = .ok (.bipush 64, 2) := by decide +kernel
theorem dX7_lowestNext_37 : decode cX7_lowestNext 37 = .ok (.imul, 1) := by decide +kernel
theorem dX7_lowestNext_38 : decode cX7_lowestNext 38 = .ok (.iload 5, 2) := by decide +kernel
theorem dX7_lowestNext_40 : decode cX7_lowestNext 40 = .ok (.iadd, 1) := by decide +kernel
theorem dX7_lowestNext_41 : decode cX7_lowestNext 41 = .ok (.iaload, 1) := by decide +kernel
theorem dX7_lowestNext_42 : decode cX7_lowestNext 42 = .ok (.iload_n 3, 1) := by decide +kernel
theorem dX7_lowestNext_43 : decode cX7_lowestNext 43 = .ok (.iushr, 1) := by decide +kernel
theorem dX7_lowestNext_44 : decode cX7_lowestNext 44 = .ok (.iconst 1, 1) := by decide +kernel
theorem dX7_lowestNext_45 : decode cX7_lowestNext 45 = .ok (.iand, 1) := by decide +kernel
theorem dX7_lowestNext_46 : decode cX7_lowestNext 46 = .ok (.ifCond .eq 6, 3) := by decide +kernel
theorem dX7_lowestNext_49 : decode cX7_lowestNext 49 = .ok (.iload 5, 2) := by decide +kernel
theorem dX7_lowestNext_51 : decode cX7_lowestNext 51 = .ok (.ireturn, 1) := by decide +kernel
theorem dX7_lowestNext_52 : decode cX7_lowestNext 52 = .ok (.iinc 4 1, 3) := by decide +kernel
theorem dX7_lowestNext_55 : decode cX7_lowestNext 55 = .ok (.goto (-52), 3) := by decide +kernel
theorem dX7_lowestNext_58 : decode cX7_lowestNext 58 = .ok (.iload_n 1, 1) := by decide +kernel
theorem dX7_lowestNext_59 : decode cX7_lowestNext 59 = .ok (.ireturn, 1) := by decide +kernel
set_option maxHeartbeats 4000000 in
set_option maxRecDepth 100000 in
theorem kX11_beside_5 (l : Launch) (G : g5_G) (sz : Nat) : Met l yX11_beside (wsG yX11_beside cX11_beside 2 (some .int)) ({ frames := 0, cells := 0, slots := 0, locals := 0 }) (va_Pc [.int 0, .int 0] (g5_P G [] sz)) (va_Qi (fun (r : Int32) (u : va_W) => ((r = (-1)) ∧ (u = []))) (g5_B G (va_A [] sz)) (va_A [] sz)) 0 0 (va_A [] sz) := by
  refine Met.ofW (cc := cX11_beside) (maxL := 2) (ret := (some .int)) (by decide) rfl ?_
  intro p e s m args below meth c s₁ B hml hv
  obtain ⟨rfl, hsz, hP, hK, hD0, hN, hT⟩ := hv
  have hx := B.exec
  have hb := B.bytes
  have hr := B.returns
  have hts : ∀ w ∈ tblG, w.before _ s = true := fun w h => atoms_spec (ws := (wsG yX11_beside cX11_beside 2 (some .int))) B.pre w (List.mem_cons_of_mem _ h)
  have hown : s.vm.findClass RX11 = some m.cls := findClass_of_methodNamed B.named
  have hlocks := B.notSynchronized
  subst hsz
  have hD := hD0.self (sz := s.heap.size)
  generalize hAe : va_A [] s.heap.size = A at hD hT ⊢
  have hA : ∀ q : Nat, s.heap.size ≤ q → A q := fun q h => by rw [← hAe]; exact Or.inr h
  have hS : va_S A s.heap s.heap [] := va_S.rf
  have hP : va_P G.1 vwCl [] s.heap := hP
  have hl := lv_entry ([.int 0, .int 0]) (n := 2) (Nat.le_of_ble_eq_true rfl)
  rw [lg_entry_eq]
  generalize (lg_sl ([.int 0, .int 0]) ++ List.replicate (2 - (lg_sl ([.int 0, .int 0])).length) Slot.unset).toArray = ls at hl ⊢
  have hl : lv_has ls 2 [(0, .int 0), (1, .int 0)] := hl
  refine lv_iload_n hx hb dX11_beside_0 rfl (lv_at hl 1 rfl) ?_
  refine lv_tableIn (tgt := 32) hx hb dX11_beside_1 (by decide) (by decide) rfl (by decide) ?_
  refine lv_iload_n hx hb dX11_beside_32 rfl (lv_at hl 0 rfl) ?_
  refine lv_bipush (v := 8) hx hb dX11_beside_33 (by decide) ?_
  refine lv_icmp_lt (tgt := 45) hx hb dX11_beside_35 (by decide) (fun c_1 => ?_) (fun c_1 => ?_)
  ·
    refine lv_iconst (v := (-1)) hx hb dX11_beside_45 (by decide) ?_
    exact W.iret (v := (-1)) hx hb hr (fun t ht hW => ⟨⟨(-1), [], rfl, ⟨rfl, rfl⟩, by rw [ht]; exact hP, hD⟩, hS.F ht⟩) hS.2.2 dX11_beside_46
  ·
    exact absurd c_1 (by decide)
set_option maxHeartbeats 4000000 in
set_option maxRecDepth 100000 in
theorem kX11_beside_6 (l : Launch) (G : g5_G) (sz : Nat) : Met l yX11_beside (wsG yX11_beside cX11_beside 2 (some .int)) ({ frames := 0, cells := 0, slots := 0, locals := 0 }) (va_Pc [.int 0, .int 3] (g5_P G [] sz)) (va_Qi (fun (r : Int32) (u : va_W) => ((r = (-1)) ∧ (u = []))) (g5_B G (va_A [] sz)) (va_A [] sz)) 0 0 (va_A [] sz) := by
  refine Met.ofW (cc := cX11_beside) (maxL := 2) (ret := (some .int)) (by decide) rfl ?_
  intro p e s m args below meth c s₁ B hml hv
  obtain ⟨rfl, hsz, hP, hK, hD0, hN, hT⟩ := hv
  have hx := B.exec
  have hb := B.bytes
  have hr := B.returns
  have hts : ∀ w ∈ tblG, w.before _ s = true := fun w h => atoms_spec (ws := (wsG yX11_beside cX11_beside 2 (some .int))) B.pre w (List.mem_cons_of_mem _ h)
  have hown : s.vm.findClass RX11 = some m.cls := findClass_of_methodNamed B.named
  have hlocks := B.notSynchronized
  subst hsz
  have hD := hD0.self (sz := s.heap.size)
  generalize hAe : va_A [] s.heap.size = A at hD hT ⊢
  have hA : ∀ q : Nat, s.heap.size ≤ q → A q := fun q h => by rw [← hAe]; exact Or.inr h
  have hS : va_S A s.heap s.heap [] := va_S.rf
  have hP : va_P G.1 vwCl [] s.heap := hP
  have hl := lv_entry ([.int 0, .int 3]) (n := 2) (Nat.le_of_ble_eq_true rfl)
  rw [lg_entry_eq]
  generalize (lg_sl ([.int 0, .int 3]) ++ List.replicate (2 - (lg_sl ([.int 0, .int 3])).length) Slot.unset).toArray = ls at hl ⊢
  have hl : lv_has ls 2 [(0, .int 0), (1, .int 3)] := hl
  refine lv_iload_n hx hb dX11_beside_0 rfl (lv_at hl 1 rfl) ?_
  refine lv_tableIn (tgt := 79) hx hb dX11_beside_1 (by decide) (by decide) rfl (by decide) ?_
  refine lv_iload_n hx hb dX11_beside_79 rfl (lv_at hl 0 rfl) ?_
  refine lv_bipush (v := 7) hx hb dX11_beside_80 (by decide) ?_
  refine lv_iand hx hb dX11_beside_82 ?_
  refine g5_ti (v := 0) (by decide) ?_
  refine lv_if_le (tgt := 92) hx hb dX11_beside_83 (by decide) (fun c_1 => ?_) (fun c_1 => ?_)
  ·
    refine lv_iconst (v := (-1)) hx hb dX11_beside_92 (by decide) ?_
    exact W.iret (v := (-1)) hx hb hr (fun t ht hW => ⟨⟨(-1), [], rfl, ⟨rfl, rfl⟩, by rw [ht]; exact hP, hD⟩, hS.F ht⟩) hS.2.2 dX11_beside_93
  ·
    exact absurd c_1 (by decide)
set_option maxHeartbeats 4000000 in
set_option maxRecDepth 100000 in
theorem kX11_beside_7 (l : Launch) (G : g5_G) (sz : Nat) : Met l yX11_beside (wsG yX11_beside cX11_beside 2 (some .int)) ({ frames := 0, cells := 0, slots := 0, locals := 0 }) (va_Pc [.int 0, .int 4] (g5_P G [] sz)) (va_Qi (fun (r : Int32) (u : va_W) => ((r = 0) ∧ (u = []))) (g5_B G (va_A [] sz)) (va_A [] sz)) 0 0 (va_A [] sz) := by
  refine Met.ofW (cc := cX11_beside) (maxL := 2) (ret := (some .int)) (by decide) rfl ?_
  intro p e s m args below meth c s₁ B hml hv
  obtain ⟨rfl, hsz, hP, hK, hD0, hN, hT⟩ := hv
  have hx := B.exec
  have hb := B.bytes
  have hr := B.returns
  have hts : ∀ w ∈ tblG, w.before _ s = true := fun w h => atoms_spec (ws := (wsG yX11_beside cX11_beside 2 (some .int))) B.pre w (List.mem_cons_of_mem _ h)
  have hown : s.vm.findClass RX11 = some m.cls := findClass_of_methodNamed B.named
  have hlocks := B.notSynchronized
  subst hsz
  have hD := hD0.self (sz := s.heap.size)
  generalize hAe : va_A [] s.heap.size = A at hD hT ⊢
  have hA : ∀ q : Nat, s.heap.size ≤ q → A q := fun q h => by rw [← hAe]; exact Or.inr h
  have hS : va_S A s.heap s.heap [] := va_S.rf
  have hP : va_P G.1 vwCl [] s.heap := hP
  have hl := lv_entry ([.int 0, .int 4]) (n := 2) (Nat.le_of_ble_eq_true rfl)
  rw [lg_entry_eq]
  generalize (lg_sl ([.int 0, .int 4]) ++ List.replicate (2 - (lg_sl ([.int 0, .int 4])).length) Slot.unset).toArray = ls at hl ⊢
  have hl : lv_has ls 2 [(0, .int 0), (1, .int 4)] := hl
  refine lv_iload_n hx hb dX11_beside_0 rfl (lv_at hl 1 rfl) ?_
  refine lv_tableOut (tgt := 94) hx hb dX11_beside_1 (by decide) (by decide) ?_
  refine lv_iload_n hx hb dX11_beside_94 rfl (lv_at hl 0 rfl) ?_
  exact W.iret (v := 0) hx hb hr (fun t ht hW => ⟨⟨0, [], rfl, ⟨rfl, rfl⟩, by rw [ht]; exact hP, hD⟩, hS.F ht⟩) hS.2.2 dX11_beside_95
set_option maxHeartbeats 4000000 in
set_option maxRecDepth 100000 in
theorem k_lowestNext (l : Launch) (G : g5_G) (a_49 a_54 a_1 a_42 a_50 a_51 a_52 a_53 a_55 a_56 : Nat) (sz : Nat) (p_h : Int32) (f_h : Nat → Int32) (h_p_h : 1 ≤ p_h.toInt ∧ p_h.toInt ≤ 23) (e_h : ∀ j : Nat, 0 ≤ (j : Int) → (j : Int) < 1536 → f_h j = 1) : Met l yX7_lowestNext (wsG yX7_lowestNext cX7_lowestNext 6 (some .int)) ({ frames := 1, cells := 0, slots := 0, locals := 21 }) (va_Pc [.ref a_49, .int 0, .int p_h, .int 0] (g5_P G [(a_49, .inr (7, [.ref a_1, .ref a_42, .ref a_50, .ref a_51, .int 0, .ref a_52, .ref a_53, .ref a_54, .ref a_55, .ref a_56])), (a_54, .inl (G.2 0, 1536, .inl f_h))] sz)) (va_Qi (fun (r : Int32) (u : va_W) => ((r = 0) ∧ (u = [(a_49, .inr (7, [.ref a_1, .ref a_42, .ref a_50, .ref a_51, .int 0, .ref a_52, .ref a_53, .ref a_54, .ref a_55, .ref a_56])), (a_54, .inl (G.2 0, 1536, .inl f_h))]))) (g5_B G (va_A [(a_49, .inr (7, [.ref a_1, .ref a_42, .ref a_50, .ref a_51, .int 0, .ref a_52, .ref a_53, .ref a_54, .ref a_55, .ref a_56])), (a_54, .inl (G.2 0, 1536, .inl f_h))] sz)) (va_A [(a_49, .inr (7, [.ref a_1, .ref a_42, .ref a_50, .ref a_51, .int 0, .ref a_52, .ref a_53, .ref a_54, .ref a_55, .ref a_56])), (a_54, .inl (G.2 0, 1536, .inl f_h))] sz)) 0 0 (va_A [(a_49, .inr (7, [.ref a_1, .ref a_42, .ref a_50, .ref a_51, .int 0, .ref a_52, .ref a_53, .ref a_54, .ref a_55, .ref a_56])), (a_54, .inl (G.2 0, 1536, .inl f_h))] sz) := by
  refine Met.ofW (cc := cX7_lowestNext) (maxL := 6) (ret := (some .int)) (by decide) rfl ?_
  intro p e s m args below meth c s₁ B hml hv
  obtain ⟨rfl, hsz, hP, hK, hD0, hN, hT⟩ := hv
  have hx := B.exec
  have hb := B.bytes
  have hr := B.returns
  have hts : ∀ w ∈ tblG, w.before _ s = true := fun w h => atoms_spec (ws := (wsG yX7_lowestNext cX7_lowestNext 6 (some .int))) B.pre w (List.mem_cons_of_mem _ h)
  have hown : s.vm.findClass RX7 = some m.cls := findClass_of_methodNamed B.named
  have hlocks := B.notSynchronized
  subst hsz
  have hD := hD0.self (sz := s.heap.size)
  generalize hAe : va_A [(a_49, .inr (7, [.ref a_1, .ref a_42, .ref a_50, .ref a_51, .int 0, .ref a_52, .ref a_53, .ref a_54, .ref a_55, .ref a_56])), (a_54, .inl (G.2 0, 1536, .inl f_h))] s.heap.size = A at hD hT ⊢
  have hA : ∀ q : Nat, s.heap.size ≤ q → A q := fun q h => by rw [← hAe]; exact Or.inr h
  have hS : va_S A s.heap s.heap [] := va_S.rf
  have hP : va_P G.1 vwCl [(a_49, .inr (7, [.ref a_1, .ref a_42, .ref a_50, .ref a_51, .int 0, .ref a_52, .ref a_53, .ref a_54, .ref a_55, .ref a_56])), (a_54, .inl (G.2 0, 1536, .inl f_h))] s.heap := hP
  have hl := lv_entry ([.ref a_49, .int 0, .int p_h, .int 0]) (n := 6) (Nat.le_of_ble_eq_true rfl)
  rw [lg_entry_eq]
  generalize (lg_sl ([.ref a_49, .int 0, .int p_h, .int 0]) ++ List.replicate (6 - (lg_sl ([.ref a_49, .int 0, .int p_h, .int 0])).length) Slot.unset).toArray = ls at hl ⊢
  have hl : lv_has ls 6 [(0, .ref a_49), (1, .int 0), (2, .int p_h), (3, .int 0)] := hl
  refine lv_iconst (v := 0) hx hb dX7_lowestNext_0 (by decide) ?_
  refine lv_istore (lv' := [(4, .int 0), (0, .ref a_49), (1, .int 0), (2, .int p_h), (3, .int 0)]) hx hb dX7_lowestNext_1 hl (by decide) rfl (fun ls hl => ?_)
  refine lv_iload hx hb dX7_lowestNext_3 (lv_at hl 0 rfl) ?_
  obtain ⟨tH, tL, hZH, hTH, hZL, hTL⟩ := id hT
  refine va_getsN hx hb hZL hS hown (hN.1 _ g5_nw_X7_131) (fun _ h9 => h9) dX7_lowestNext_5 ?_
  refine va_tlen hx hb hTL hS (v := 5) (by decide) dX7_lowestNext_8 ?_
  refine lv_icmp_ge (tgt := 58) hx hb dX7_lowestNext_9 (by decide) (fun c_1 => ?_) (fun c_1 => ?_)
  ·
    exact absurd c_1 (by decide)
  ·
    refine lv_iload_n hx hb dX7_lowestNext_12 rfl (lv_at hl 2 rfl) ?_
    obtain ⟨tH, tL, hZH, hTH, hZL, hTL⟩ := id hT
    refine va_getsN hx hb hZL hS hown (hN.1 _ g5_nw_X7_131) (fun _ h9 => h9) dX7_lowestNext_13 ?_
    refine lv_iload hx hb dX7_lowestNext_16 (lv_at hl 0 rfl) ?_
    refine va_ti hx hb hTL hS (i := 0) (by unfold vp_in; decide) (v := .int 0) rfl dX7_lowestNext_18 ?_
    have hPc := hP.sub (ws' := []) [] rfl
    have hDc := hD.sub (ws' := []) [] (by decide) rfl
    have hFc := va_free (wc := []) hD hS hA [] rfl
    refine va_calli (va_runSN (As := [.int 0, .int 0]) (rest := []) ⟨hx, hb, hml, hown, hts⟩ (kX11_beside_5 l G s.heap.size) ⟨va_cnB 2 hts gW_X11_beside rfl rfl rfl (hN.1 _ g5_nw_X7_105) (hts _ ini_X11) hs_X11_beside ⟨Nat.le_of_ble_eq_true rfl, Nat.le_of_ble_eq_true rfl⟩, hts _ st_X11_beside, trivial⟩ (g5_preS hPc hK hDc hN hT hS hFc) rfl rfl hl.1 rfl (lv_room (Nat.le_of_ble_eq_true rfl)) dX7_lowestNext_19 ⟨Nat.le_of_ble_eq_true rfl, Nat.le_of_ble_eq_true rfl⟩) hS (fun q _ h => hFc q h) hFc (fun r u t H1 locs ht hvm hw hB hz1 hk1 hS => ?_)
    obtain ⟨hP1, hD1⟩ := hB
    rw [ht] at hP1
    obtain ⟨rfl, rfl⟩ := hw
    have hP := g5_same hP hk1
    generalize H1 = H at hP hS ⊢
    refine lv_istore (lv' := [(5, .int (-1)), (4, .int 0), (0, .ref a_49), (1, .int 0), (2, .int p_h), (3, .int 0)]) hx hb dX7_lowestNext_22 hl (by decide) rfl (fun ls hl => ?_)
    refine lv_iload hx hb dX7_lowestNext_24 (lv_at hl 0 rfl) ?_
    refine lv_iconst (v := (-1)) hx hb dX7_lowestNext_26 (by decide) ?_
    refine lv_icmp_eq (tgt := 52) hx hb dX7_lowestNext_27 (by decide) (fun c_2 => ?_) (fun c_2 => ?_)
    ·
      refine lv_iinc (v := 1) (lv' := [(4, .int 1), (5, .int (-1)), (0, .ref a_49), (1, .int 0), (2, .int p_h), (3, .int 0)]) hx hb dX7_lowestNext_52 hl (k := 1) rfl (by decide) (by decide) rfl (fun ls hl => ?_)
      refine lv_goto (tgt := 3) hx hb dX7_lowestNext_55 (by decide) ?_
      refine lv_iload hx hb dX7_lowestNext_3 (lv_at hl 0 rfl) ?_
      obtain ⟨tH, tL, hZH, hTH, hZL, hTL⟩ := id hT
      refine va_getsN hx hb hZL hS hown (hN.1 _ g5_nw_X7_131) (fun _ h9 => h9) dX7_lowestNext_5 ?_
      refine va_tlen hx hb hTL hS (v := 5) (by decide) dX7_lowestNext_8 ?_
      refine lv_icmp_ge (tgt := 58) hx hb dX7_lowestNext_9 (by decide) (fun c_3 => ?_) (fun c_3 => ?_)
      ·
        exact absurd c_3 (by decide)
      ·
        refine lv_iload_n hx hb dX7_lowestNext_12 rfl (lv_at hl 3 rfl) ?_
        obtain ⟨tH, tL, hZH, hTH, hZL, hTL⟩ := id hT
        refine va_getsN hx hb hZL hS hown (hN.1 _ g5_nw_X7_131) (fun _ h9 => h9) dX7_lowestNext_13 ?_
        refine lv_iload hx hb dX7_lowestNext_16 (lv_at hl 0 rfl) ?_
        refine va_ti hx hb hTL hS (i := 1) (by unfold vp_in; decide) (v := .int 3) rfl dX7_lowestNext_18 ?_
        have hPc := hP.sub (ws' := []) [] rfl
        have hDc := hD.sub (ws' := []) [] (by decide) rfl
        have hFc := va_free (wc := []) hD hS hA [] rfl
        refine va_calli (va_runSN (As := [.int 0, .int 3]) (rest := []) ⟨hx, hb, hml, hown, hts⟩ (kX11_beside_6 l G H.size) ⟨va_cnB 2 hts gW_X11_beside rfl rfl rfl (hN.1 _ g5_nw_X7_105) (hts _ ini_X11) hs_X11_beside ⟨Nat.le_of_ble_eq_true rfl, Nat.le_of_ble_eq_true rfl⟩, hts _ st_X11_beside, trivial⟩ (g5_preS hPc hK hDc hN hT hS hFc) rfl rfl hl.1 rfl (lv_room (Nat.le_of_ble_eq_true rfl)) dX7_lowestNext_19 ⟨Nat.le_of_ble_eq_true rfl, Nat.le_of_ble_eq_true rfl⟩) hS (fun q _ h => hFc q h) hFc (fun r u t H1 locs ht hvm hw hB hz1 hk1 hS => ?_)
        obtain ⟨hP1, hD1⟩ := hB
        rw [ht] at hP1
        obtain ⟨rfl, rfl⟩ := hw
        have hP := g5_same hP hk1
        generalize H1 = H at hP hS ⊢
        refine lv_istore (lv' := [(5, .int (-1)), (4, .int 1), (0, .ref a_49), (1, .int 0), (2, .int p_h), (3, .int 0)]) hx hb dX7_lowestNext_22 hl (by decide) rfl (fun ls hl => ?_)
        refine lv_iload hx hb dX7_lowestNext_24 (lv_at hl 0 rfl) ?_
        refine lv_iconst (v := (-1)) hx hb dX7_lowestNext_26 (by decide) ?_
        refine lv_icmp_eq (tgt := 52) hx hb dX7_lowestNext_27 (by decide) (fun c_4 => ?_) (fun c_4 => ?_)
        ·
          refine lv_iinc (v := 2) (lv' := [(4, .int 2), (5, .int (-1)), (0, .ref a_49), (1, .int 0), (2, .int p_h), (3, .int 0)]) hx hb dX7_lowestNext_52 hl (k := 1) rfl (by decide) (by decide) rfl (fun ls hl => ?_)
          refine lv_goto (tgt := 3) hx hb dX7_lowestNext_55 (by decide) ?_
          refine lv_iload hx hb dX7_lowestNext_3 (lv_at hl 0 rfl) ?_
          obtain ⟨tH, tL, hZH, hTH, hZL, hTL⟩ := id hT
          refine va_getsN hx hb hZL hS hown (hN.1 _ g5_nw_X7_131) (fun _ h9 => h9) dX7_lowestNext_5 ?_
          refine va_tlen hx hb hTL hS (v := 5) (by decide) dX7_lowestNext_8 ?_
          refine lv_icmp_ge (tgt := 58) hx hb dX7_lowestNext_9 (by decide) (fun c_5 => ?_) (fun c_5 => ?_)
          ·
            exact absurd c_5 (by decide)
          ·
            refine lv_iload_n hx hb dX7_lowestNext_12 rfl (lv_at hl 3 rfl) ?_
            obtain ⟨tH, tL, hZH, hTH, hZL, hTL⟩ := id hT
            refine va_getsN hx hb hZL hS hown (hN.1 _ g5_nw_X7_131) (fun _ h9 => h9) dX7_lowestNext_13 ?_
            refine lv_iload hx hb dX7_lowestNext_16 (lv_at hl 0 rfl) ?_
            refine va_ti hx hb hTL hS (i := 2) (by unfold vp_in; decide) (v := .int 4) rfl dX7_lowestNext_18 ?_
            have hPc := hP.sub (ws' := []) [] rfl
            have hDc := hD.sub (ws' := []) [] (by decide) rfl
            have hFc := va_free (wc := []) hD hS hA [] rfl
            refine va_calli (va_runSN (As := [.int 0, .int 4]) (rest := []) ⟨hx, hb, hml, hown, hts⟩ (kX11_beside_7 l G H.size) ⟨va_cnB 2 hts gW_X11_beside rfl rfl rfl (hN.1 _ g5_nw_X7_105) (hts _ ini_X11) hs_X11_beside ⟨Nat.le_of_ble_eq_true rfl, Nat.le_of_ble_eq_true rfl⟩, hts _ st_X11_beside, trivial⟩ (g5_preS hPc hK hDc hN hT hS hFc) rfl rfl hl.1 rfl (lv_room (Nat.le_of_ble_eq_true rfl)) dX7_lowestNext_19 ⟨Nat.le_of_ble_eq_true rfl, Nat.le_of_ble_eq_true rfl⟩) hS (fun q _ h => hFc q h) hFc (fun r u t H1 locs ht hvm hw hB hz1 hk1 hS => ?_)
            obtain ⟨hP1, hD1⟩ := hB
            rw [ht] at hP1
            obtain ⟨rfl, rfl⟩ := hw
            have hP := g5_same hP hk1
            generalize H1 = H at hP hS ⊢
            refine lv_istore (lv' := [(5, .int 0), (4, .int 2), (0, .ref a_49), (1, .int 0), (2, .int p_h), (3, .int 0)]) hx hb dX7_lowestNext_22 hl (by decide) rfl (fun ls hl => ?_)
            refine lv_iload hx hb dX7_lowestNext_24 (lv_at hl 0 rfl) ?_
            refine lv_iconst (v := (-1)) hx hb dX7_lowestNext_26 (by decide) ?_
            refine lv_icmp_eq (tgt := 52) hx hb dX7_lowestNext_27 (by decide) (fun c_6 => ?_) (fun c_6 => ?_)
            ·
              exact absurd c_6 (by decide)
            ·
              refine lv_aload_n hx hb dX7_lowestNext_30 rfl (lv_at hl 2 rfl) ?_
              refine va_get (D := G.1) (ci := 7) (v := .ref a_54) (C := RX7) (T := TX7) (N := 10) hx hb hts inG_X7 hown hK hP 0 rfl rfl 7 (by decide) (hts _ fl_X7_25) (fun _ h9 => h9) rfl dX7_lowestNext_31 ?_
              refine lv_iload_n hx hb dX7_lowestNext_34 rfl (lv_at hl 4 rfl) ?_
              refine lv_bipush (v := 64) hx hb dX7_lowestNext_35 (by decide) ?_
              refine lv_imul hx hb dX7_lowestNext_37 ?_
              have t_7 : (p_h * 64).toInt = p_h.toInt * 64 := g5_imul (a := p_h.toInt) (b := 64) (by rfl) (by decide) (by omega) (by omega)
              refine lv_iload hx hb dX7_lowestNext_38 (lv_at hl 0 rfl) ?_
              refine lv_iadd hx hb dX7_lowestNext_40 ?_
              refine g5_ti (v := (p_h * 64)) (by simp) ?_
              refine va_iald hx hb hK hP 1 0 rfl rfl (i := (p_h * 64)) (vp_in_iff.mpr ⟨by omega, by omega⟩) dX7_lowestNext_41 ?_
              refine g5_ti (v := 1) (e_h _ (by have z := g5_clamp (p_h * 64); omega) (by have z := g5_clamp (p_h * 64); omega)) ?_
              refine lv_iload_n hx hb dX7_lowestNext_42 rfl (lv_at hl 5 rfl) ?_
              refine lv_iushr (v := 1) hx hb dX7_lowestNext_43 (by decide) ?_
              refine lv_iconst (v := 1) hx hb dX7_lowestNext_44 (by decide) ?_
              refine lv_iand hx hb dX7_lowestNext_45 ?_
              refine g5_ti (v := 1) (by decide) ?_
              refine lv_if_eq (tgt := 52) hx hb dX7_lowestNext_46 (by decide) (fun c_8 => ?_) (fun c_8 => ?_)
              ·
                exact absurd c_8 (by decide)
              ·
                refine lv_iload hx hb dX7_lowestNext_49 (lv_at hl 0 rfl) ?_
                exact W.iret (v := 0) hx hb hr (fun t ht hW => ⟨⟨0, [(a_49, .inr (7, [.ref a_1, .ref a_42, .ref a_50, .ref a_51, .int 0, .ref a_52, .ref a_53, .ref a_54, .ref a_55, .ref a_56])), (a_54, .inl (G.2 0, 1536, .inl f_h))], rfl, ⟨rfl, rfl⟩, by rw [ht]; exact hP.sub [0, 1] rfl, hD.sub [0, 1] (by decide) rfl⟩, hS.F ht⟩) hS.2.2 dX7_lowestNext_51
        ·
          exact absurd c_4 (by decide)
    ·
      exact absurd c_2 (by decide)
theorem dX7_firstRowAt_0 : decode cX7_firstRowAt 0 = .ok (.aload_n 0, 1) := by decide +kernel
theorem dX7_firstRowAt_1 : decode cX7_firstRowAt 1 = .ok (.invokevirtual 117, 3) := by decide +kernel
theorem dX7_firstRowAt_4 : decode cX7_firstRowAt 4 = .ok (.ifCond .ne 5, 3) := by decide +kernel
theorem dX7_firstRowAt_7 : decode cX7_firstRowAt 7 = .ok (.iconst (-1), 1) := by decide +kernel
theorem dX7_firstRowAt_8 : decode cX7_firstRowAt 8 = .ok (.ireturn, 1) := by decide +kernel
theorem dX7_firstRowAt_9 : decode cX7_firstRowAt 9 = .ok (.iconst 0, 1) := by decide +kernel
theorem dX7_firstRowAt_10 : decode cX7_firstRowAt 10 = .ok (.istore_n 2, 1) := by decide +kernel
theorem dX7_firstRowAt_11 : decode cX7_firstRowAt 11 = .ok (.iload_n 2, 1) := by decide +kernel
theorem dX7_firstRowAt_12 : decode cX7_firstRowAt 12 = .ok (.bipush 63, 2) := by decide +kernel
theorem dX7_firstRowAt_14 : decode cX7_firstRowAt 14 = .ok (.if_icmp .ge 20, 3) := by decide +kernel
theorem dX7_firstRowAt_17 : decode cX7_firstRowAt 17 = .ok (.aload_n 0, 1) := by decide +kernel
theorem dX7_firstRowAt_18 : decode cX7_firstRowAt 18 = .ok (.getfield 25, 3) := by decide +kernel
theorem dX7_firstRowAt_21 : decode cX7_firstRowAt 21 = .ok (.iload_n 2, 1) := by decide +kernel
theorem dX7_firstRowAt_22 : decode cX7_firstRowAt 22 = .ok (.iaload, 1) := by decide +kernel
theorem dX7_firstRowAt_23 : decode cX7_firstRowAt 23 = .ok (.iconst 1, 1) := by decide +kernel
theorem dX7_firstRowAt_24 : decode cX7_firstRowAt 24 = .ok (.iand, 1) := by decide +kernel
theorem dX7_firstRowAt_25 : decode cX7_firstRowAt 25 = .ok (.ifCond .ne 9, 3) := by decide +kernel
theorem dX7_firstRowAt_28 : decode cX7_firstRowAt 28 = .ok (.iinc 2 1, 3) := by decide +kernel
theorem dX7_firstRowAt_31 : decode cX7_firstRowAt 31 = .ok (.goto (-20), 3) := by decide +kernel
theorem dX7_firstRowAt_34 : decode cX7_firstRowAt 34 = .ok (.aload_n 0, 1) := by decide +kernel
theorem dX7_firstRowAt_35 : decode cX7_firstRowAt 35 = .ok (.getfield 15, 3) := by decide +kernel
theorem dX7_firstRowAt_38 : decode cX7_firstRowAt 38 = .ok (.iload_n 2, 1) := by decide +kernel
theorem dX7_firstRowAt_39 : decode cX7_firstRowAt 39 = .ok (.iaload, 1) := by decide +kernel
theorem dX7_firstRowAt_40 : decode cX7_firstRowAt 40 = .ok (.istore_n 3, 1) := by decide +kernel
theorem dX7_firstRowAt_41 : decode cX7_firstRowAt 41 = .ok (.iconst 1, 1) := by decide +kernel
theorem dX7_firstRowAt_42 : decode cX7_firstRowAt 42 = .ok (.istore 4, 2) := by decide +kernel
theorem dX7_firstRowAt_44 : decode cX7_firstRowAt 44 = .ok (.iload 4, 2) := by decide +kernel
theorem dX7_firstRowAt_46 : decode cX7_firstRowAt 46 = .ok (.iload_n 1, 1) := by decide +kernel
theorem dX7_firstRowAt_47 : decode cX7_firstRowAt 47 = .ok (.if_icmp .gt 33, 3) := by decide +kernel
theorem dX7_firstRowAt_50 : decode cX7_firstRowAt 50 = .ok (.aload_n 0, 1) := by decide +kernel
theorem dX7_firstRowAt_51 : decode cX7_firstRowAt 51 = .ok (.iload_n 2, 1) := by decide +kernel
theorem dX7_firstRowAt_52 : decode cX7_firstRowAt 52 = .ok (.iload 4, 2) := by decide +kernel
theorem dX7_firstRowAt_54 : decode cX7_firstRowAt 54 = .ok (.iload_n 3, 1) := by decide +kernel
theorem dX7_firstRowAt_55 : decode cX7_firstRowAt 55 = .ok (.invokevirtual 127, 3) := by decide +kernel
theorem dX7_firstRowAt_58 : decode cX7_firstRowAt 58 = .ok (.istore_n 2, 1) := by decide +kernel
theorem dX7_firstRowAt_59 : decode cX7_firstRowAt 59 = .ok (.iload_n 3, 1) := by decide +kernel
theorem dX7_firstRowAt_60 : decode cX7_firstRowAt 60 = .ok (.aload_n 0, 1) := by decide +kernel
theorem dX7_firstRowAt_61 : decode cX7_firstRowAt 61 = .ok (.getfield 15, 3) := by decide +kernel
theorem dX7_firstRowAt_64 : decode cX7_firstRowAt 64 = .ok (.iload 4, 2) := by decide +kernel
theorem dX7_firstRowAt_66 : decode cX7_firstRowAt 66 = .ok (.bipush 64, 2) := by decide +kernel
theorem dX7_firstRowAt_68 : decode cX7_firstRowAt 68 = .ok (.imul, 1) := by decide +kernel
theorem dX7_firstRowAt_69 : decode cX7_firstRowAt 69 = .ok (.iload_n 2, 1) := by decide +kernel
theorem dX7_firstRowAt_70 : decode cX7_firstRowAt 70 = .ok (.iadd, 1) := by decide +kernel
theorem dX7_firstRowAt_71 : decode cX7_firstRowAt 71 = .ok (.iaload, 1) := by decide +kernel
theorem dX7_firstRowAt_72 : decode cX7_firstRowAt 72 = .ok (.ior, 1) := by decide +kernel
theorem dX7_firstRowAt_73 : decode cX7_firstRowAt 73 = .ok (.istore_n 3, 1) := by decide +kernel
theorem dX7_firstRowAt_74 : decode cX7_firstRowAt 74 = .ok (.iinc 4 1, 3) := by decide +kernel
theorem dX7_firstRowAt_77 : decode cX7_firstRowAt 77 = .ok (.goto (-33), 3) := by decide +kernel
theorem dX7_firstRowAt_80 : decode cX7_firstRowAt 80 = .ok (.iload_n 2, 1) := by decide +kernel
theorem dX7_firstRowAt_81 : decode cX7_firstRowAt 81 = .ok (.ireturn, 1) := by decide +kernel
theorem ml_X7_127 : Cond.methodLink RX7 127 yX7_lowestNext ∈ tblG := tg 1024 (by decide +kernel) (by decide +kernel)
theorem im_X7_lowestNext : Cond.instanceMethod yX7_lowestNext ∈ tblG := tg 1026 (by decide +kernel) (by decide +kernel)
theorem se_X7_lowestNext : Cond.selects RX7 yX7_lowestNext yX7_lowestNext ∈ tblG := tg 25 (by decide +kernel) (by decide +kernel)
theorem cd_X7_lowestNext : Cond.code yX7_lowestNext cX7_lowestNext 6 (some .int) ∈ tblG := tg 1027 (by decide +kernel) (by decide +kernel)
theorem gW_X7_lowestNext : GoodIn tblG (wsG yX7_lowestNext cX7_lowestNext 6 (some .int)) := tgi cd_X7_lowestNext
theorem gV_X7_127 : GoodIn tblG (wsV RX7 127 RX7 yX7_lowestNext (wsG yX7_lowestNext cX7_lowestNext 6 (some .int))) := tgV ml_X7_127 im_X7_lowestNext se_X7_lowestNext ini_X7 gW_X7_lowestNext
theorem hv_X7_lowestNext : yX7_lowestNext.cls = RX7 ∧ yX7_lowestNext.cls ≠ "java/lang/invoke/MethodHandle" ∧ yX7_lowestNext.cls ≠ "java/lang/invoke/VarHandle" ∧ (parseMethodDescriptor yX7_lowestNext.desc).map (fun d => d.parameters.length) = some 3 := by decide +kernel
set_option maxHeartbeats 4000000 in
set_option maxRecDepth 100000 in
theorem k_firstRowAt (l : Launch) (G : g5_G) (a_49 a_50 a_51 a_54 a_1 a_42 a_52 a_53 a_55 a_56 : Nat) (sz : Nat) (p_h : Int32) (f_h : Nat → Int32) (h_p_h : 0 ≤ p_h.toInt ∧ p_h.toInt ≤ 23) : Met l yX7_firstRowAt (wsG yX7_firstRowAt cX7_firstRowAt 5 (some .int)) ({ frames := 3, cells := 0, slots := 0, locals := 70 }) (va_Pc [.ref a_49, .int p_h] (g5_P G [(a_49, .inr (7, [.ref a_1, .ref a_42, .ref a_50, .ref a_51, .int 0, .ref a_52, .ref a_53, .ref a_54, .ref a_55, .ref a_56])), (a_50, .inl (G.2 1, 24, .inr (.inl (fun _ => 0)))), (a_51, .inl (G.2 0, 1536, .inl (fun _ => 0))), (a_54, .inl (G.2 0, 1536, .inl f_h))] sz)) (va_Qi (fun (r : Int32) (u : va_W) => ((r = 0) ∧ (u = [(a_49, .inr (7, [.ref a_1, .ref a_42, .ref a_50, .ref a_51, .int 0, .ref a_52, .ref a_53, .ref a_54, .ref a_55, .ref a_56]))]))) (g5_B G (va_A [(a_49, .inr (7, [.ref a_1, .ref a_42, .ref a_50, .ref a_51, .int 0, .ref a_52, .ref a_53, .ref a_54, .ref a_55, .ref a_56])), (a_50, .inl (G.2 1, 24, .inr (.inl (fun _ => 0)))), (a_51, .inl (G.2 0, 1536, .inl (fun _ => 0))), (a_54, .inl (G.2 0, 1536, .inl f_h))] sz)) (va_A [(a_49, .inr (7, [.ref a_1, .ref a_42, .ref a_50, .ref a_51, .int 0, .ref a_52, .ref a_53, .ref a_54, .ref a_55, .ref a_56])), (a_50, .inl (G.2 1, 24, .inr (.inl (fun _ => 0)))), (a_51, .inl (G.2 0, 1536, .inl (fun _ => 0))), (a_54, .inl (G.2 0, 1536, .inl f_h))] sz)) 0 0 (va_A [(a_49, .inr (7, [.ref a_1, .ref a_42, .ref a_50, .ref a_51, .int 0, .ref a_52, .ref a_53, .ref a_54, .ref a_55, .ref a_56])), (a_50, .inl (G.2 1, 24, .inr (.inl (fun _ => 0)))), (a_51, .inl (G.2 0, 1536, .inl (fun _ => 0))), (a_54, .inl (G.2 0, 1536, .inl f_h))] sz) := by
  refine Met.ofW (cc := cX7_firstRowAt) (maxL := 5) (ret := (some .int)) (by decide) rfl ?_
  intro p e s m args below meth c s₁ B hml hv
  obtain ⟨rfl, hsz, hP, hK, hD0, hN, hT⟩ := hv
  have hx := B.exec
  have hb := B.bytes
  have hr := B.returns
  have hts : ∀ w ∈ tblG, w.before _ s = true := fun w h => atoms_spec (ws := (wsG yX7_firstRowAt cX7_firstRowAt 5 (some .int))) B.pre w (List.mem_cons_of_mem _ h)
  have hown : s.vm.findClass RX7 = some m.cls := findClass_of_methodNamed B.named
  have hlocks := B.notSynchronized
  subst hsz
  have hD := hD0.self (sz := s.heap.size)
  generalize hAe : va_A [(a_49, .inr (7, [.ref a_1, .ref a_42, .ref a_50, .ref a_51, .int 0, .ref a_52, .ref a_53, .ref a_54, .ref a_55, .ref a_56])), (a_50, .inl (G.2 1, 24, .inr (.inl (fun _ => 0)))), (a_51, .inl (G.2 0, 1536, .inl (fun _ => 0))), (a_54, .inl (G.2 0, 1536, .inl f_h))] s.heap.size = A at hD hT ⊢
  have hA : ∀ q : Nat, s.heap.size ≤ q → A q := fun q h => by rw [← hAe]; exact Or.inr h
  have hS : va_S A s.heap s.heap [] := va_S.rf
  have hP : va_P G.1 vwCl [(a_49, .inr (7, [.ref a_1, .ref a_42, .ref a_50, .ref a_51, .int 0, .ref a_52, .ref a_53, .ref a_54, .ref a_55, .ref a_56])), (a_50, .inl (G.2 1, 24, .inr (.inl (fun _ => 0)))), (a_51, .inl (G.2 0, 1536, .inl (fun _ => 0))), (a_54, .inl (G.2 0, 1536, .inl f_h))] s.heap := hP
  have hl := lv_entry ([.ref a_49, .int p_h]) (n := 5) (Nat.le_of_ble_eq_true rfl)
  rw [lg_entry_eq]
  generalize (lg_sl ([.ref a_49, .int p_h]) ++ List.replicate (5 - (lg_sl ([.ref a_49, .int p_h])).length) Slot.unset).toArray = ls at hl ⊢
  have hl : lv_has ls 5 [(0, .ref a_49), (1, .int p_h)] := hl
  refine lv_aload_n hx hb dX7_firstRowAt_0 rfl (lv_at hl 0 rfl) ?_
  have hPc := hP.sub (ws' := [(a_49, .inr (7, [.ref a_1, .ref a_42, .ref a_50, .ref a_51, .int 0, .ref a_52, .ref a_53, .ref a_54, .ref a_55, .ref a_56])), (a_50, .inl (G.2 1, 24, .inr (.inl (fun _ => 0)))), (a_51, .inl (G.2 0, 1536, .inl (fun _ => 0))), (a_54, .inl (G.2 0, 1536, .inl f_h))]) [0, 1, 2, 3] rfl
  have hDc := hD.sub (ws' := [(a_49, .inr (7, [.ref a_1, .ref a_42, .ref a_50, .ref a_51, .int 0, .ref a_52, .ref a_53, .ref a_54, .ref a_55, .ref a_56])), (a_50, .inl (G.2 1, 24, .inr (.inl (fun _ => 0)))), (a_51, .inl (G.2 0, 1536, .inl (fun _ => 0))), (a_54, .inl (G.2 0, 1536, .inl f_h))]) [0, 1, 2, 3] (by decide) rfl
  have hFc := va_free (wc := [(a_49, .inr (7, [.ref a_1, .ref a_42, .ref a_50, .ref a_51, .int 0, .ref a_52, .ref a_53, .ref a_54, .ref a_55, .ref a_56])), (a_50, .inl (G.2 1, 24, .inr (.inl (fun _ => 0)))), (a_51, .inl (G.2 0, 1536, .inl (fun _ => 0))), (a_54, .inl (G.2 0, 1536, .inl f_h))]) hD hS hA [0, 1, 2, 3] rfl
  refine va_calli (va_runV (As := []) (rest := []) ⟨hx, hb, hml, hown, hts⟩ (k_anyFits l G a_49 a_50 a_51 a_54 a_1 a_42 a_52 a_53 a_55 a_56 s.heap.size f_h) (cwV 0 hts gV_X7_117 rfl rfl rfl hv_X7_anyFits ⟨Nat.le_of_ble_eq_true rfl, Nat.le_of_ble_eq_true rfl⟩) (g5_preV hPc hK hDc hN hT hS hFc (ci := 7) (q0 := 0) rfl rfl) rfl rfl hl.1 rfl (lv_room (Nat.le_of_ble_eq_true rfl)) dX7_firstRowAt_1 ⟨Nat.le_of_ble_eq_true rfl, Nat.le_of_ble_eq_true rfl⟩) hS (fun q _ h => hFc q h) hFc (fun r u t H1 locs ht hvm hw hB hz1 hk1 hS => ?_)
  obtain ⟨hP1, hD1⟩ := hB
  rw [ht] at hP1
  obtain ⟨z2, i_1, rfl, rfl⟩ := hw
  have i_1 : ∀ j : Nat, 0 ≤ (j : Int) → (j : Int) < 1536 → z2 j = 1 := i_1
  obtain ⟨hP, hD⟩ := va_join (wr := []) (w1 := [(a_49, .inr (7, [.ref a_1, .ref a_42, .ref a_50, .ref a_51, .int 0, .ref a_52, .ref a_53, .ref a_54, .ref a_55, .ref a_56])), (a_50, .inl (G.2 1, 24, .inr (.inl (fun _ => 0)))), (a_51, .inl (G.2 0, 1536, .inl (fun _ => 0))), (a_54, .inl (G.2 0, 1536, .inl z2))]) hP hD [0, 1, 2, 3] [] rfl rfl (by decide) (by decide) hk1 hFc hP1 hD1
  generalize H1 = H at hP hS ⊢
  have hP : va_P G.1 vwCl [(a_49, .inr (7, [.ref a_1, .ref a_42, .ref a_50, .ref a_51, .int 0, .ref a_52, .ref a_53, .ref a_54, .ref a_55, .ref a_56])), (a_50, .inl (G.2 1, 24, .inr (.inl (fun _ => 0)))), (a_51, .inl (G.2 0, 1536, .inl (fun _ => 0))), (a_54, .inl (G.2 0, 1536, .inl z2))] H := hP
  have hD : va_D A [(a_49, .inr (7, [.ref a_1, .ref a_42, .ref a_50, .ref a_51, .int 0, .ref a_52, .ref a_53, .ref a_54, .ref a_55, .ref a_56])), (a_50, .inl (G.2 1, 24, .inr (.inl (fun _ => 0)))), (a_51, .inl (G.2 0, 1536, .inl (fun _ => 0))), (a_54, .inl (G.2 0, 1536, .inl z2))] := hD
  refine lv_if_ne (tgt := 9) hx hb dX7_firstRowAt_4 (by decide) (fun c_3 => ?_) (fun c_3 => ?_)
  ·
    refine lv_iconst (v := 0) hx hb dX7_firstRowAt_9 (by decide) ?_
    refine lv_istore_n (lv' := [(2, .int 0), (0, .ref a_49), (1, .int p_h)]) hx hb dX7_firstRowAt_10 rfl hl (by decide) rfl (fun ls hl => ?_)
    refine lv_iload_n hx hb dX7_firstRowAt_11 rfl (lv_at hl 0 rfl) ?_
    refine lv_bipush (v := 63) hx hb dX7_firstRowAt_12 (by decide) ?_
    refine lv_icmp_ge (tgt := 34) hx hb dX7_firstRowAt_14 (by decide) (fun c_4 => ?_) (fun c_4 => ?_)
    ·
      exact absurd c_4 (by decide)
    ·
      refine lv_aload_n hx hb dX7_firstRowAt_17 rfl (lv_at hl 1 rfl) ?_
      refine va_get (D := G.1) (ci := 7) (v := .ref a_54) (C := RX7) (T := TX7) (N := 10) hx hb hts inG_X7 hown hK hP 0 rfl rfl 7 (by decide) (hts _ fl_X7_25) (fun _ h9 => h9) rfl dX7_firstRowAt_18 ?_
      refine lv_iload_n hx hb dX7_firstRowAt_21 rfl (lv_at hl 0 rfl) ?_
      refine va_iald hx hb hK hP 3 0 rfl rfl (i := 0) (by unfold vp_in; decide) dX7_firstRowAt_22 ?_
      refine g5_ti (v := 1) (show _ = _ from i_1 0 (by omega) (by omega)) ?_
      refine lv_iconst (v := 1) hx hb dX7_firstRowAt_23 (by decide) ?_
      refine lv_iand hx hb dX7_firstRowAt_24 ?_
      refine g5_ti (v := 1) (by decide) ?_
      refine lv_if_ne (tgt := 34) hx hb dX7_firstRowAt_25 (by decide) (fun c_5 => ?_) (fun c_5 => ?_)
      ·
        refine lv_aload_n hx hb dX7_firstRowAt_34 rfl (lv_at hl 1 rfl) ?_
        refine va_get (D := G.1) (ci := 7) (v := .ref a_51) (C := RX7) (T := TX7) (N := 10) hx hb hts inG_X7 hown hK hP 0 rfl rfl 3 (by decide) (hts _ fl_X7_15) (fun _ h9 => h9) rfl dX7_firstRowAt_35 ?_
        refine lv_iload_n hx hb dX7_firstRowAt_38 rfl (lv_at hl 0 rfl) ?_
        refine va_iald hx hb hK hP 2 0 rfl rfl (i := 0) (by unfold vp_in; decide) dX7_firstRowAt_39 ?_
        refine g5_ti (v := 0) rfl ?_
        refine lv_istore_n (lv' := [(3, .int 0), (2, .int 0), (0, .ref a_49), (1, .int p_h)]) hx hb dX7_firstRowAt_40 rfl hl (by decide) rfl (fun ls hl => ?_)
        refine lv_iconst (v := 1) hx hb dX7_firstRowAt_41 (by decide) ?_
        refine lv_istore (lv' := [(4, .int 1), (3, .int 0), (2, .int 0), (0, .ref a_49), (1, .int p_h)]) hx hb dX7_firstRowAt_42 hl (by decide) rfl (fun ls hl => ?_)
        refine g5_loop (α := (Int32)) (fun (k_l : (Int32)) (ls : Array Slot) (H : Heap) (locs : List Loc) => lv_has ls 5 [(4, .int k_l), (3, .int 0), (2, .int 0), (0, .ref a_49), (1, .int p_h)] ∧ va_P G.1 vwCl [(a_49, .inr (7, [.ref a_1, .ref a_42, .ref a_50, .ref a_51, .int 0, .ref a_52, .ref a_53, .ref a_54, .ref a_55, .ref a_56])), (a_50, .inl (G.2 1, 24, .inr (.inl (fun _ => 0)))), (a_51, .inl (G.2 0, 1536, .inl (fun _ => 0))), (a_54, .inl (G.2 0, 1536, .inl z2))] H ∧ va_D A [(a_49, .inr (7, [.ref a_1, .ref a_42, .ref a_50, .ref a_51, .int 0, .ref a_52, .ref a_53, .ref a_54, .ref a_55, .ref a_56])), (a_50, .inl (G.2 1, 24, .inr (.inl (fun _ => 0)))), (a_51, .inl (G.2 0, 1536, .inl (fun _ => 0))), (a_54, .inl (G.2 0, 1536, .inl z2))] ∧ va_S A s.heap H locs ∧ (1 ≤ k_l.toInt ∧ k_l.toInt ≤ 24)) (fun (k_l : (Int32)) => Int.toNat (24 - k_l.toInt)) 1 ⟨lv_sub hl [0, 1, 2, 3, 4] rfl, hP, hD, hS, ⟨by decide, by decide⟩⟩ ?_
        rintro k_l ls H locs ⟨hl, hP, hD, hS, i_6⟩ ih_44_7
        have hl : lv_has ls 5 [(4, .int k_l), (3, .int 0), (2, .int 0), (0, .ref a_49), (1, .int p_h)] := hl
        have i_6 : 1 ≤ k_l.toInt ∧ k_l.toInt ≤ 24 := i_6
        have hP : va_P G.1 vwCl [(a_49, .inr (7, [.ref a_1, .ref a_42, .ref a_50, .ref a_51, .int 0, .ref a_52, .ref a_53, .ref a_54, .ref a_55, .ref a_56])), (a_50, .inl (G.2 1, 24, .inr (.inl (fun _ => 0)))), (a_51, .inl (G.2 0, 1536, .inl (fun _ => 0))), (a_54, .inl (G.2 0, 1536, .inl z2))] H := hP
        have hD : va_D A [(a_49, .inr (7, [.ref a_1, .ref a_42, .ref a_50, .ref a_51, .int 0, .ref a_52, .ref a_53, .ref a_54, .ref a_55, .ref a_56])), (a_50, .inl (G.2 1, 24, .inr (.inl (fun _ => 0)))), (a_51, .inl (G.2 0, 1536, .inl (fun _ => 0))), (a_54, .inl (G.2 0, 1536, .inl z2))] := hD
        refine lv_iload hx hb dX7_firstRowAt_44 (lv_at hl 0 rfl) ?_
        refine lv_iload_n hx hb dX7_firstRowAt_46 rfl (lv_at hl 4 rfl) ?_
        refine lv_icmp_gt (tgt := 80) hx hb dX7_firstRowAt_47 (by decide) (fun c_8 => ?_) (fun c_8 => ?_)
        ·
          have i_8 : k_l.toInt > p_h.toInt := by have z := g5_gt (a := k_l.toInt) (b := p_h.toInt) (by rfl) (by rfl) c_8; omega
          refine lv_iload_n hx hb dX7_firstRowAt_80 rfl (lv_at hl 2 rfl) ?_
          exact W.iret (v := 0) hx hb hr (fun t ht hW => ⟨⟨0, [(a_49, .inr (7, [.ref a_1, .ref a_42, .ref a_50, .ref a_51, .int 0, .ref a_52, .ref a_53, .ref a_54, .ref a_55, .ref a_56]))], rfl, ⟨rfl, rfl⟩, by rw [ht]; exact hP.sub [0] rfl, hD.sub [0] (by decide) rfl⟩, hS.F ht⟩) hS.2.2 dX7_firstRowAt_81
        ·
          have i_8 : k_l.toInt ≤ p_h.toInt := by have z := g5_gtN (a := k_l.toInt) (b := p_h.toInt) (by rfl) (by rfl) c_8; omega
          refine lv_aload_n hx hb dX7_firstRowAt_50 rfl (lv_at hl 3 rfl) ?_
          refine lv_iload_n hx hb dX7_firstRowAt_51 rfl (lv_at hl 2 rfl) ?_
          refine lv_iload hx hb dX7_firstRowAt_52 (lv_at hl 0 rfl) ?_
          refine lv_iload_n hx hb dX7_firstRowAt_54 rfl (lv_at hl 1 rfl) ?_
          have hPc := hP.sub (ws' := [(a_49, .inr (7, [.ref a_1, .ref a_42, .ref a_50, .ref a_51, .int 0, .ref a_52, .ref a_53, .ref a_54, .ref a_55, .ref a_56])), (a_54, .inl (G.2 0, 1536, .inl z2))]) [0, 3] rfl
          have hDc := hD.sub (ws' := [(a_49, .inr (7, [.ref a_1, .ref a_42, .ref a_50, .ref a_51, .int 0, .ref a_52, .ref a_53, .ref a_54, .ref a_55, .ref a_56])), (a_54, .inl (G.2 0, 1536, .inl z2))]) [0, 3] (by decide) rfl
          have hFc := va_free (wc := [(a_49, .inr (7, [.ref a_1, .ref a_42, .ref a_50, .ref a_51, .int 0, .ref a_52, .ref a_53, .ref a_54, .ref a_55, .ref a_56])), (a_54, .inl (G.2 0, 1536, .inl z2))]) hD hS hA [0, 3] rfl
          refine va_calli (va_runV (As := [.int 0, .int k_l, .int 0]) (rest := []) ⟨hx, hb, hml, hown, hts⟩ (k_lowestNext l G a_49 a_54 a_1 a_42 a_50 a_51 a_52 a_53 a_55 a_56 H.size k_l z2 ⟨by omega, by omega⟩ (i_1)) (cwV 3 hts gV_X7_127 rfl rfl rfl hv_X7_lowestNext ⟨Nat.le_of_ble_eq_true rfl, Nat.le_of_ble_eq_true rfl⟩) (g5_preV hPc hK hDc hN hT hS hFc (ci := 7) (q0 := 0) rfl rfl) rfl rfl hl.1 rfl (lv_room (Nat.le_of_ble_eq_true rfl)) dX7_firstRowAt_55 ⟨Nat.le_of_ble_eq_true rfl, Nat.le_of_ble_eq_true rfl⟩) hS (fun q _ h => hFc q h) hFc (fun r u t H1 locs ht hvm hw hB hz1 hk1 hS => ?_)
          obtain ⟨hP1, hD1⟩ := hB
          rw [ht] at hP1
          obtain ⟨rfl, rfl⟩ := hw
          obtain ⟨hP, hD⟩ := va_join (wr := [(a_50, .inl (G.2 1, 24, .inr (.inl (fun _ => 0)))), (a_51, .inl (G.2 0, 1536, .inl (fun _ => 0)))]) (w1 := [(a_49, .inr (7, [.ref a_1, .ref a_42, .ref a_50, .ref a_51, .int 0, .ref a_52, .ref a_53, .ref a_54, .ref a_55, .ref a_56])), (a_54, .inl (G.2 0, 1536, .inl z2))]) hP hD [0, 3] [1, 2] rfl rfl (by decide) (by decide) hk1 hFc hP1 hD1
          generalize H1 = H at hP hS ⊢
          have hP : va_P G.1 vwCl [(a_50, .inl (G.2 1, 24, .inr (.inl (fun _ => 0)))), (a_51, .inl (G.2 0, 1536, .inl (fun _ => 0))), (a_49, .inr (7, [.ref a_1, .ref a_42, .ref a_50, .ref a_51, .int 0, .ref a_52, .ref a_53, .ref a_54, .ref a_55, .ref a_56])), (a_54, .inl (G.2 0, 1536, .inl z2))] H := hP
          have hD : va_D A [(a_50, .inl (G.2 1, 24, .inr (.inl (fun _ => 0)))), (a_51, .inl (G.2 0, 1536, .inl (fun _ => 0))), (a_49, .inr (7, [.ref a_1, .ref a_42, .ref a_50, .ref a_51, .int 0, .ref a_52, .ref a_53, .ref a_54, .ref a_55, .ref a_56])), (a_54, .inl (G.2 0, 1536, .inl z2))] := hD
          refine lv_istore_n (lv' := [(2, .int 0), (4, .int k_l), (3, .int 0), (0, .ref a_49), (1, .int p_h)]) hx hb dX7_firstRowAt_58 rfl hl (by decide) rfl (fun ls hl => ?_)
          refine lv_iload_n hx hb dX7_firstRowAt_59 rfl (lv_at hl 2 rfl) ?_
          refine lv_aload_n hx hb dX7_firstRowAt_60 rfl (lv_at hl 3 rfl) ?_
          refine va_get (D := G.1) (ci := 7) (v := .ref a_51) (C := RX7) (T := TX7) (N := 10) hx hb hts inG_X7 hown hK hP 2 rfl rfl 3 (by decide) (hts _ fl_X7_15) (fun _ h9 => h9) rfl dX7_firstRowAt_61 ?_
          refine lv_iload hx hb dX7_firstRowAt_64 (lv_at hl 1 rfl) ?_
          refine lv_bipush (v := 64) hx hb dX7_firstRowAt_66 (by decide) ?_
          refine lv_imul hx hb dX7_firstRowAt_68 ?_
          have t_9 : (k_l * 64).toInt = k_l.toInt * 64 := g5_imul (a := k_l.toInt) (b := 64) (by rfl) (by decide) (by omega) (by omega)
          refine lv_iload_n hx hb dX7_firstRowAt_69 rfl (lv_at hl 0 rfl) ?_
          refine lv_iadd hx hb dX7_firstRowAt_70 ?_
          refine g5_ti (v := (k_l * 64)) (by simp) ?_
          refine va_iald hx hb hK hP 1 0 rfl rfl (i := (k_l * 64)) (vp_in_iff.mpr ⟨by omega, by omega⟩) dX7_firstRowAt_71 ?_
          refine g5_ti (v := 0) rfl ?_
          refine lv_ior hx hb dX7_firstRowAt_72 ?_
          refine g5_ti (v := 0) (by decide) ?_
          refine lv_istore_n (lv' := [(3, .int 0), (2, .int 0), (4, .int k_l), (0, .ref a_49), (1, .int p_h)]) hx hb dX7_firstRowAt_73 rfl hl (by decide) rfl (fun ls hl => ?_)
          refine lv_iinc (v := (k_l + 1)) (lv' := [(4, .int (k_l + 1)), (3, .int 0), (2, .int 0), (0, .ref a_49), (1, .int p_h)]) hx hb dX7_firstRowAt_74 hl (k := 2) rfl rfl (by decide) rfl (fun ls hl => ?_)
          have t_10 : (k_l + 1).toInt = k_l.toInt + 1 := g5_iadd (a := k_l.toInt) (b := 1) rfl (by decide) (by omega) (by omega)
          refine lv_goto (tgt := 44) hx hb dX7_firstRowAt_77 (by decide) ?_
          exact ih_44_7 (k_l + 1) ls H locs (show Int.toNat (24 - (k_l + 1).toInt) < Int.toNat (24 - k_l.toInt) by omega) ⟨lv_sub hl [0, 1, 2, 3, 4] rfl, hP.sub [2, 0, 1, 3] rfl, hD.sub [2, 0, 1, 3] (by decide) rfl, hS, ⟨by omega, by omega⟩⟩
      ·
        exact absurd c_5 (by decide)
  ·
    exact absurd c_3 (by decide)
theorem dX7_barPoints_0 : decode cX7_barPoints 0 = .ok (.iconst 0, 1) := by decide +kernel
theorem dX7_barPoints_1 : decode cX7_barPoints 1 = .ok (.istore_n 1, 1) := by decide +kernel
theorem dX7_barPoints_2 : decode cX7_barPoints 2 = .ok (.iload_n 1, 1) := by decide +kernel
theorem dX7_barPoints_3 : decode cX7_barPoints 3 = .ok (.aload_n 0, 1) := by decide +kernel
theorem dX7_barPoints_4 : decode cX7_barPoints 4 = .ok (.getfield 38, 3) := by decide +kernel
theorem dX7_barPoints_7 : decode cX7_barPoints 7 = .ok (.getfield 92, 3) := by decide +kernel
theorem dX7_barPoints_10 : decode cX7_barPoints 10 = .ok (.if_icmp .ge 43, 3) := by decide +kernel
theorem dX7_barPoints_13 : decode cX7_barPoints 13 = .ok (.aload_n 0, 1) := by decide +kernel
theorem dX7_barPoints_14 : decode cX7_barPoints 14 = .ok (.getfield 9, 3) := by decide +kernel
theorem dX7_barPoints_17 : decode cX7_barPoints 17 = .ok (.aload_n 0, 1) := by decide +kernel
theorem dX7_barPoints_18 : decode cX7_barPoints 18 = .ok (.getfield 38, 3) := by decide +kernel
theorem dX7_barPoints_21 : decode cX7_barPoints 21 = .ok (.getfield 95, 3) := by decide +kernel
theorem dX7_barPoints_24 : decode cX7_barPoints 24 = .ok (.iload_n 1, 1) := by decide +kernel
theorem dX7_barPoints_25 : decode cX7_barPoints 25 = .ok (.iaload, 1) := by decide +kernel
theorem dX7_barPoints_26 : decode cX7_barPoints 26 = .ok (.bipush 64, 2) := by decide +kernel
theorem dX7_barPoints_28 : decode cX7_barPoints 28 = .ok (.idiv, 1) := by decide +kernel
theorem dX7_barPoints_29 : decode cX7_barPoints 29 = .ok (.dup2, 1) := by decide +kernel
theorem dX7_barPoints_30 : decode cX7_barPoints 30 = .ok (.laload, 1) := by decide +kernel
theorem dX7_barPoints_31 : decode cX7_barPoints 31 = .ok (.lconst 1, 1) := by decide +kernel
theorem dX7_barPoints_32 : decode cX7_barPoints 32 = .ok (.aload_n 0, 1) := by decide +kernel
theorem dX7_barPoints_33 : decode cX7_barPoints 33 = .ok (.getfield 38, 3) := by decide +kernel
theorem dX7_barPoints_36 : decode cX7_barPoints 36 = .ok (.getfield 95, 3) := by decide +kernel
theorem dX7_barPoints_39 : decode cX7_barPoints 39 = .ok (.iload_n 1, 1) := by decide +kernel
theorem dX7_barPoints_40 : decode cX7_barPoints 40 = .ok (.iaload, 1) := by decide +kernel
theorem dX7_barPoints_41 : decode cX7_barPoints 41 = .ok (.bipush 64, 2) := by decide +kernel
theorem dX7_barPoints_43 : decode cX7_barPoints 43 = .ok (.irem, 1) := by decide +kernel
theorem dX7_barPoints_44 : decode cX7_barPoints 44 = .ok (.lshl, 1) := by decide +kernel
theorem dX7_barPoints_45 : decode cX7_barPoints 45 = .ok (.lor, 1) := by decide +kernel
theorem dX7_barPoints_46 : decode cX7_barPoints 46 = .ok (.lastore, 1) := by decide +kernel
theorem dX7_barPoints_47 : decode cX7_barPoints 47 = .ok (.iinc 1 1, 3) := by decide +kernel
theorem dX7_barPoints_50 : decode cX7_barPoints 50 = .ok (.goto (-48), 3) := by decide +kernel
theorem dX7_barPoints_53 : decode cX7_barPoints 53 = .ok (.return_, 1) := by decide +kernel
theorem fl_X7_92 : Cond.fieldLink RX7 92 "LateGlass$Look" "length" "I" ∈ tblG := tg 251 (by decide +kernel) (by decide +kernel)
theorem fl_X7_95 : Cond.fieldLink RX7 95 "LateGlass$Look" "points" "[I" ∈ tblG := tg 247 (by decide +kernel) (by decide +kernel)
set_option maxHeartbeats 4000000 in
set_option maxRecDepth 100000 in
theorem k_barPoints0 (l : Launch) (G : g5_G) (a_49 a_50 a_42 a_46 a_1 a_51 a_52 a_53 a_54 a_55 a_56 a_43 : Nat) (sz : Nat) (p_n : Int32) (p_h : Int32) (p_c : Int32) (e_l : Int32) (e_met : Int32) (e_c : Int32) (f_b : Nat → Int64) (f_p : Nat → Int32) (h_p_n : 0 ≤ p_n.toInt ∧ p_n.toInt ≤ 7) (h_p_h : 0 ≤ p_h.toInt ∧ p_h.toInt ≤ 23) (h_p_c : 0 ≤ p_c.toInt ∧ p_c.toInt ≤ 63) (e_p : ∀ j : Nat, (j : Int) < p_n.toInt → (f_p j).toInt = p_h.toInt * 64 + (p_c.toInt - 8 * ((j : Int) + 1))) (e_n : p_n.toInt = p_c.toInt / 8) : Met l yX7_barPoints (wsG yX7_barPoints cX7_barPoints 2 none) ({ frames := 0, cells := 0, slots := 0, locals := 0 }) (va_Pc [.ref a_49] (g5_P G [(a_49, .inr (7, [.ref a_1, .ref a_42, .ref a_50, .ref a_51, .int 0, .ref a_52, .ref a_53, .ref a_54, .ref a_55, .ref a_56])), (a_50, .inl (G.2 1, 24, .inr (.inl f_b))), (a_42, .inr (5, [.ref a_1, .ref a_43, .ref a_46, .int p_n, .int (-1), .int e_l, .int 1000000, .int 0, .int e_met, .int e_c, .int 0, .int p_h, .int 0])), (a_46, .inl (G.2 0, 200, .inl f_p))] sz)) (va_Qv (fun (u : va_W) => (∃ (o_b : Nat → Int64), (∀ j : Nat, o_b j = vp_updL f_b p_h.toInt.toNat (rayN (f_b p_h.toInt.toNat) (gW 0 p_c.toInt) p_n.toInt.toNat) j) ∧ (u = [(a_49, .inr (7, [.ref a_1, .ref a_42, .ref a_50, .ref a_51, .int 0, .ref a_52, .ref a_53, .ref a_54, .ref a_55, .ref a_56])), (a_50, .inl (G.2 1, 24, .inr (.inl o_b)))]))) (g5_B G (va_A [(a_49, .inr (7, [.ref a_1, .ref a_42, .ref a_50, .ref a_51, .int 0, .ref a_52, .ref a_53, .ref a_54, .ref a_55, .ref a_56])), (a_50, .inl (G.2 1, 24, .inr (.inl f_b))), (a_42, .inr (5, [.ref a_1, .ref a_43, .ref a_46, .int p_n, .int (-1), .int e_l, .int 1000000, .int 0, .int e_met, .int e_c, .int 0, .int p_h, .int 0])), (a_46, .inl (G.2 0, 200, .inl f_p))] sz)) (va_A [(a_49, .inr (7, [.ref a_1, .ref a_42, .ref a_50, .ref a_51, .int 0, .ref a_52, .ref a_53, .ref a_54, .ref a_55, .ref a_56])), (a_50, .inl (G.2 1, 24, .inr (.inl f_b))), (a_42, .inr (5, [.ref a_1, .ref a_43, .ref a_46, .int p_n, .int (-1), .int e_l, .int 1000000, .int 0, .int e_met, .int e_c, .int 0, .int p_h, .int 0])), (a_46, .inl (G.2 0, 200, .inl f_p))] sz)) 0 0 (va_A [(a_49, .inr (7, [.ref a_1, .ref a_42, .ref a_50, .ref a_51, .int 0, .ref a_52, .ref a_53, .ref a_54, .ref a_55, .ref a_56])), (a_50, .inl (G.2 1, 24, .inr (.inl f_b))), (a_42, .inr (5, [.ref a_1, .ref a_43, .ref a_46, .int p_n, .int (-1), .int e_l, .int 1000000, .int 0, .int e_met, .int e_c, .int 0, .int p_h, .int 0])), (a_46, .inl (G.2 0, 200, .inl f_p))] sz) := by
  refine Met.ofW (cc := cX7_barPoints) (maxL := 2) (ret := none) (by decide) rfl ?_
  intro p e s m args below meth c s₁ B hml hv
  obtain ⟨rfl, hsz, hP, hK, hD0, hN, hT⟩ := hv
  have hx := B.exec
  have hb := B.bytes
  have hr := B.returns
  have hts : ∀ w ∈ tblG, w.before _ s = true := fun w h => atoms_spec (ws := (wsG yX7_barPoints cX7_barPoints 2 none)) B.pre w (List.mem_cons_of_mem _ h)
  have hown : s.vm.findClass RX7 = some m.cls := findClass_of_methodNamed B.named
  have hlocks := B.notSynchronized
  subst hsz
  have hD := hD0.self (sz := s.heap.size)
  generalize hAe : va_A [(a_49, .inr (7, [.ref a_1, .ref a_42, .ref a_50, .ref a_51, .int 0, .ref a_52, .ref a_53, .ref a_54, .ref a_55, .ref a_56])), (a_50, .inl (G.2 1, 24, .inr (.inl f_b))), (a_42, .inr (5, [.ref a_1, .ref a_43, .ref a_46, .int p_n, .int (-1), .int e_l, .int 1000000, .int 0, .int e_met, .int e_c, .int 0, .int p_h, .int 0])), (a_46, .inl (G.2 0, 200, .inl f_p))] s.heap.size = A at hD hT ⊢
  have hA : ∀ q : Nat, s.heap.size ≤ q → A q := fun q h => by rw [← hAe]; exact Or.inr h
  have hS : va_S A s.heap s.heap [] := va_S.rf
  have hP : va_P G.1 vwCl [(a_49, .inr (7, [.ref a_1, .ref a_42, .ref a_50, .ref a_51, .int 0, .ref a_52, .ref a_53, .ref a_54, .ref a_55, .ref a_56])), (a_50, .inl (G.2 1, 24, .inr (.inl f_b))), (a_42, .inr (5, [.ref a_1, .ref a_43, .ref a_46, .int p_n, .int (-1), .int e_l, .int 1000000, .int 0, .int e_met, .int e_c, .int 0, .int p_h, .int 0])), (a_46, .inl (G.2 0, 200, .inl f_p))] s.heap := hP
  have hl := lv_entry ([.ref a_49]) (n := 2) (Nat.le_of_ble_eq_true rfl)
  rw [lg_entry_eq]
  generalize (lg_sl ([.ref a_49]) ++ List.replicate (2 - (lg_sl ([.ref a_49])).length) Slot.unset).toArray = ls at hl ⊢
  have hl : lv_has ls 2 [(0, .ref a_49)] := hl
  refine lv_iconst (v := 0) hx hb dX7_barPoints_0 (by decide) ?_
  refine lv_istore_n (lv' := [(1, .int 0), (0, .ref a_49)]) hx hb dX7_barPoints_1 rfl hl (by decide) rfl (fun ls hl => ?_)
  refine g5_loop (α := (Int32) × (Nat → Int64)) (fun (q : (Int32) × (Nat → Int64)) (ls : Array Slot) (H : Heap) (locs : List Loc) => match q with | (k_i, k_g) => lv_has ls 2 [(1, .int k_i), (0, .ref a_49)] ∧ va_P G.1 vwCl [(a_49, .inr (7, [.ref a_1, .ref a_42, .ref a_50, .ref a_51, .int 0, .ref a_52, .ref a_53, .ref a_54, .ref a_55, .ref a_56])), (a_50, .inl (G.2 1, 24, .inr (.inl k_g))), (a_42, .inr (5, [.ref a_1, .ref a_43, .ref a_46, .int p_n, .int (-1), .int e_l, .int 1000000, .int 0, .int e_met, .int e_c, .int 0, .int p_h, .int 0])), (a_46, .inl (G.2 0, 200, .inl f_p))] H ∧ va_D A [(a_49, .inr (7, [.ref a_1, .ref a_42, .ref a_50, .ref a_51, .int 0, .ref a_52, .ref a_53, .ref a_54, .ref a_55, .ref a_56])), (a_50, .inl (G.2 1, 24, .inr (.inl k_g))), (a_42, .inr (5, [.ref a_1, .ref a_43, .ref a_46, .int p_n, .int (-1), .int e_l, .int 1000000, .int 0, .int e_met, .int e_c, .int 0, .int p_h, .int 0])), (a_46, .inl (G.2 0, 200, .inl f_p))] ∧ va_S A s.heap H locs ∧ (0 ≤ k_i.toInt ∧ k_i.toInt ≤ 7) ∧ (k_i.toInt ≤ p_n.toInt) ∧ (∀ j : Nat, k_g j = vp_updL f_b p_h.toInt.toNat (rayN (f_b p_h.toInt.toNat) (gW 0 p_c.toInt) k_i.toInt.toNat) j)) (fun (q : (Int32) × (Nat → Int64)) => match q with | (k_i, k_g) => Int.toNat (7 - k_i.toInt)) (0, f_b) ⟨lv_sub hl [0, 1] rfl, hP, hD, hS, ⟨by decide, by decide⟩, by have z0 : (0 : Int32).toInt = 0 := (by decide); omega, g5_bar0 (by decide)⟩ ?_
  rintro ⟨k_i, k_g⟩ ls H locs ⟨hl, hP, hD, hS, i_1, i_2, i_3⟩ ih_2_4
  have hl : lv_has ls 2 [(1, .int k_i), (0, .ref a_49)] := hl
  have i_1 : 0 ≤ k_i.toInt ∧ k_i.toInt ≤ 7 := i_1
  have i_2 : k_i.toInt ≤ p_n.toInt := i_2
  have i_3 : ∀ j : Nat, k_g j = vp_updL f_b p_h.toInt.toNat (rayN (f_b p_h.toInt.toNat) (gW 0 p_c.toInt) k_i.toInt.toNat) j := i_3
  have hP : va_P G.1 vwCl [(a_49, .inr (7, [.ref a_1, .ref a_42, .ref a_50, .ref a_51, .int 0, .ref a_52, .ref a_53, .ref a_54, .ref a_55, .ref a_56])), (a_50, .inl (G.2 1, 24, .inr (.inl k_g))), (a_42, .inr (5, [.ref a_1, .ref a_43, .ref a_46, .int p_n, .int (-1), .int e_l, .int 1000000, .int 0, .int e_met, .int e_c, .int 0, .int p_h, .int 0])), (a_46, .inl (G.2 0, 200, .inl f_p))] H := hP
  have hD : va_D A [(a_49, .inr (7, [.ref a_1, .ref a_42, .ref a_50, .ref a_51, .int 0, .ref a_52, .ref a_53, .ref a_54, .ref a_55, .ref a_56])), (a_50, .inl (G.2 1, 24, .inr (.inl k_g))), (a_42, .inr (5, [.ref a_1, .ref a_43, .ref a_46, .int p_n, .int (-1), .int e_l, .int 1000000, .int 0, .int e_met, .int e_c, .int 0, .int p_h, .int 0])), (a_46, .inl (G.2 0, 200, .inl f_p))] := hD
  refine lv_iload_n hx hb dX7_barPoints_2 rfl (lv_at hl 0 rfl) ?_
  refine lv_aload_n hx hb dX7_barPoints_3 rfl (lv_at hl 1 rfl) ?_
  refine va_get (D := G.1) (ci := 7) (v := .ref a_42) (C := RX7) (T := TX7) (N := 10) hx hb hts inG_X7 hown hK hP 0 rfl rfl 1 (by decide) (hts _ fl_X7_38) (fun _ h9 => h9) rfl dX7_barPoints_4 ?_
  refine va_get (D := G.1) (ci := 5) (v := .int p_n) (C := RX5) (T := TX5) (N := 13) hx hb hts inG_X5 hown hK hP 2 rfl rfl 3 (by decide) (hts _ fl_X7_92) (fun _ h9 => h9) rfl dX7_barPoints_7 ?_
  refine lv_icmp_ge (tgt := 53) hx hb dX7_barPoints_10 (by decide) (fun c_5 => ?_) (fun c_5 => ?_)
  ·
    have i_5 : k_i.toInt ≥ p_n.toInt := by have z := g5_ge (a := k_i.toInt) (b := p_n.toInt) (by rfl) (by rfl) c_5; omega
    exact W.vret hx hb hr (fun t ht hW => ⟨⟨[(a_49, .inr (7, [.ref a_1, .ref a_42, .ref a_50, .ref a_51, .int 0, .ref a_52, .ref a_53, .ref a_54, .ref a_55, .ref a_56])), (a_50, .inl (G.2 1, 24, .inr (.inl k_g)))], rfl, ⟨k_g, fun j => by rw [i_3 j, show k_i.toInt = p_n.toInt by omega], rfl⟩, by rw [ht]; exact hP.sub [0, 1] rfl, hD.sub [0, 1] (by decide) rfl⟩, hS.F ht⟩) hS.2.2 dX7_barPoints_53
  ·
    have i_5 : k_i.toInt < p_n.toInt := by have z := g5_geN (a := k_i.toInt) (b := p_n.toInt) (by rfl) (by rfl) c_5; omega
    refine lv_aload_n hx hb dX7_barPoints_13 rfl (lv_at hl 1 rfl) ?_
    refine va_get (D := G.1) (ci := 7) (v := .ref a_50) (C := RX7) (T := TX7) (N := 10) hx hb hts inG_X7 hown hK hP 0 rfl rfl 2 (by decide) (hts _ fl_X7_9) (fun _ h9 => h9) rfl dX7_barPoints_14 ?_
    refine lv_aload_n hx hb dX7_barPoints_17 rfl (lv_at hl 1 rfl) ?_
    refine va_get (D := G.1) (ci := 7) (v := .ref a_42) (C := RX7) (T := TX7) (N := 10) hx hb hts inG_X7 hown hK hP 0 rfl rfl 1 (by decide) (hts _ fl_X7_38) (fun _ h9 => h9) rfl dX7_barPoints_18 ?_
    refine va_get (D := G.1) (ci := 5) (v := .ref a_46) (C := RX5) (T := TX5) (N := 13) hx hb hts inG_X5 hown hK hP 2 rfl rfl 2 (by decide) (hts _ fl_X7_95) (fun _ h9 => h9) rfl dX7_barPoints_21 ?_
    refine lv_iload_n hx hb dX7_barPoints_24 rfl (lv_at hl 0 rfl) ?_
    have tz_6 := g5_clamp k_i
    have t_6 := e_p (k_i.toNatClampNeg) (by omega)
    refine va_iald hx hb hK hP 3 0 rfl rfl (i := k_i) (vp_in_iff.mpr ⟨by omega, by omega⟩) dX7_barPoints_25 ?_
    refine lv_bipush (v := 64) hx hb dX7_barPoints_26 (by decide) ?_
    refine lv_idiv hx hb dX7_barPoints_28 (by decide) ?_
    have t_7 : ((f_p k_i.toNatClampNeg) / 64).toInt = (f_p k_i.toNatClampNeg).toInt / 64 := g5_idiv (a := (f_p k_i.toNatClampNeg).toInt) (b := 64) rfl (by decide) (by omega) (by decide)
    refine lv_dup2_11 hx hb dX7_barPoints_29 rfl rfl ?_
    refine va_lald hx hb hK hP 1 1 rfl rfl (i := ((f_p k_i.toNatClampNeg) / 64)) (vp_in_iff.mpr ⟨by omega, by omega⟩) dX7_barPoints_30 ?_
    refine lv_lconst (v := 1) hx hb dX7_barPoints_31 (by decide) ?_
    refine lv_aload_n hx hb dX7_barPoints_32 rfl (lv_at hl 1 rfl) ?_
    refine va_get (D := G.1) (ci := 7) (v := .ref a_42) (C := RX7) (T := TX7) (N := 10) hx hb hts inG_X7 hown hK hP 0 rfl rfl 1 (by decide) (hts _ fl_X7_38) (fun _ h9 => h9) rfl dX7_barPoints_33 ?_
    refine va_get (D := G.1) (ci := 5) (v := .ref a_46) (C := RX5) (T := TX5) (N := 13) hx hb hts inG_X5 hown hK hP 2 rfl rfl 2 (by decide) (hts _ fl_X7_95) (fun _ h9 => h9) rfl dX7_barPoints_36 ?_
    refine lv_iload_n hx hb dX7_barPoints_39 rfl (lv_at hl 0 rfl) ?_
    have tz_8 := g5_clamp k_i
    have t_8 := e_p (k_i.toNatClampNeg) (by omega)
    refine va_iald hx hb hK hP 3 0 rfl rfl (i := k_i) (vp_in_iff.mpr ⟨by omega, by omega⟩) dX7_barPoints_40 ?_
    refine lv_bipush (v := 64) hx hb dX7_barPoints_41 (by decide) ?_
    refine lv_irem hx hb dX7_barPoints_43 (by decide) ?_
    have t_9 : ((f_p k_i.toNatClampNeg) - (f_p k_i.toNatClampNeg) / 64 * 64).toInt = (f_p k_i.toNatClampNeg).toInt % 64 := g5_irem (a := (f_p k_i.toNatClampNeg).toInt) (b := 64) rfl (by decide) (by omega) (by decide)
    refine lv_lshl (v := ((1 : Int64) <<< (((f_p k_i.toNatClampNeg) - (f_p k_i.toNatClampNeg) / 64 * 64).toInt64 &&& 63))) hx hb dX7_barPoints_44 rfl ?_
    refine lv_lor hx hb dX7_barPoints_45 ?_
    refine va_last hx hb hK hP hD hS 1 1 rfl rfl (i := ((f_p k_i.toNatClampNeg) / 64)) (x := ((k_g ((f_p k_i.toNatClampNeg) / 64).toNatClampNeg) ||| ((1 : Int64) <<< (((f_p k_i.toNatClampNeg) - (f_p k_i.toNatClampNeg) / 64 * 64).toInt64 &&& 63)))) (vp_in_iff.mpr ⟨by omega, by omega⟩) dX7_barPoints_46 (fun H locs hP hD hS => ?_)
    have hP : va_P G.1 vwCl [(a_49, .inr (7, [.ref a_1, .ref a_42, .ref a_50, .ref a_51, .int 0, .ref a_52, .ref a_53, .ref a_54, .ref a_55, .ref a_56])), (a_50, .inl (G.2 1, 24, .inr (.inl (vp_updL k_g ((f_p k_i.toNatClampNeg) / 64).toNatClampNeg ((k_g ((f_p k_i.toNatClampNeg) / 64).toNatClampNeg) ||| ((1 : Int64) <<< (((f_p k_i.toNatClampNeg) - (f_p k_i.toNatClampNeg) / 64 * 64).toInt64 &&& 63))))))), (a_42, .inr (5, [.ref a_1, .ref a_43, .ref a_46, .int p_n, .int (-1), .int e_l, .int 1000000, .int 0, .int e_met, .int e_c, .int 0, .int p_h, .int 0])), (a_46, .inl (G.2 0, 200, .inl f_p))] H := hP
    have hD : va_D A [(a_49, .inr (7, [.ref a_1, .ref a_42, .ref a_50, .ref a_51, .int 0, .ref a_52, .ref a_53, .ref a_54, .ref a_55, .ref a_56])), (a_50, .inl (G.2 1, 24, .inr (.inl (vp_updL k_g ((f_p k_i.toNatClampNeg) / 64).toNatClampNeg ((k_g ((f_p k_i.toNatClampNeg) / 64).toNatClampNeg) ||| ((1 : Int64) <<< (((f_p k_i.toNatClampNeg) - (f_p k_i.toNatClampNeg) / 64 * 64).toInt64 &&& 63))))))), (a_42, .inr (5, [.ref a_1, .ref a_43, .ref a_46, .int p_n, .int (-1), .int e_l, .int 1000000, .int 0, .int e_met, .int e_c, .int 0, .int p_h, .int 0])), (a_46, .inl (G.2 0, 200, .inl f_p))] := hD
    refine lv_iinc (v := (k_i + 1)) (lv' := [(1, .int (k_i + 1)), (0, .ref a_49)]) hx hb dX7_barPoints_47 hl (k := 0) rfl rfl (by decide) rfl (fun ls hl => ?_)
    have t_10 : (k_i + 1).toInt = k_i.toInt + 1 := g5_iadd (a := k_i.toInt) (b := 1) rfl (by decide) (by omega) (by omega)
    refine lv_goto (tgt := 2) hx hb dX7_barPoints_50 (by decide) ?_
    exact ih_2_4 ((k_i + 1), (vp_updL k_g ((f_p k_i.toNatClampNeg) / 64).toNatClampNeg ((k_g ((f_p k_i.toNatClampNeg) / 64).toNatClampNeg) ||| ((1 : Int64) <<< (((f_p k_i.toNatClampNeg) - (f_p k_i.toNatClampNeg) / 64 * 64).toInt64 &&& 63))))) ls H locs (show Int.toNat (7 - (k_i + 1).toInt) < Int.toNat (7 - k_i.toInt) by omega) ⟨lv_sub hl [0, 1] rfl, hP, hD, hS, ⟨by omega, by omega⟩, by omega, g5_bar i_3 (by omega) (by omega) (by omega) (by unfold gW; simp only [if_true, reduceIte, Nat.reduceEqDiff]; omega) (by omega)⟩
set_option maxHeartbeats 4000000 in
set_option maxRecDepth 100000 in
theorem k_barPoints1 (l : Launch) (G : g5_G) (a_49 a_50 a_42 a_46 a_1 a_51 a_52 a_53 a_54 a_55 a_56 a_43 : Nat) (sz : Nat) (p_n : Int32) (p_h : Int32) (p_c : Int32) (e_l : Int32) (e_met : Int32) (e_c : Int32) (f_b : Nat → Int64) (f_p : Nat → Int32) (h_p_n : 0 ≤ p_n.toInt ∧ p_n.toInt ≤ 7) (h_p_h : 0 ≤ p_h.toInt ∧ p_h.toInt ≤ 23) (h_p_c : 0 ≤ p_c.toInt ∧ p_c.toInt ≤ 63) (e_p : ∀ j : Nat, (j : Int) < p_n.toInt → (f_p j).toInt = p_h.toInt * 64 + (p_c.toInt + ((j : Int) + 1))) (e_n : p_n.toInt = 7 - p_c.toInt % 8) : Met l yX7_barPoints (wsG yX7_barPoints cX7_barPoints 2 none) ({ frames := 0, cells := 0, slots := 0, locals := 0 }) (va_Pc [.ref a_49] (g5_P G [(a_49, .inr (7, [.ref a_1, .ref a_42, .ref a_50, .ref a_51, .int 0, .ref a_52, .ref a_53, .ref a_54, .ref a_55, .ref a_56])), (a_50, .inl (G.2 1, 24, .inr (.inl f_b))), (a_42, .inr (5, [.ref a_1, .ref a_43, .ref a_46, .int p_n, .int (-1), .int e_l, .int 1000000, .int 0, .int e_met, .int e_c, .int 1, .int p_h, .int 0])), (a_46, .inl (G.2 0, 200, .inl f_p))] sz)) (va_Qv (fun (u : va_W) => (∃ (o_b : Nat → Int64), (∀ j : Nat, o_b j = vp_updL f_b p_h.toInt.toNat (rayN (f_b p_h.toInt.toNat) (gW 1 p_c.toInt) p_n.toInt.toNat) j) ∧ (u = [(a_49, .inr (7, [.ref a_1, .ref a_42, .ref a_50, .ref a_51, .int 0, .ref a_52, .ref a_53, .ref a_54, .ref a_55, .ref a_56])), (a_50, .inl (G.2 1, 24, .inr (.inl o_b)))]))) (g5_B G (va_A [(a_49, .inr (7, [.ref a_1, .ref a_42, .ref a_50, .ref a_51, .int 0, .ref a_52, .ref a_53, .ref a_54, .ref a_55, .ref a_56])), (a_50, .inl (G.2 1, 24, .inr (.inl f_b))), (a_42, .inr (5, [.ref a_1, .ref a_43, .ref a_46, .int p_n, .int (-1), .int e_l, .int 1000000, .int 0, .int e_met, .int e_c, .int 1, .int p_h, .int 0])), (a_46, .inl (G.2 0, 200, .inl f_p))] sz)) (va_A [(a_49, .inr (7, [.ref a_1, .ref a_42, .ref a_50, .ref a_51, .int 0, .ref a_52, .ref a_53, .ref a_54, .ref a_55, .ref a_56])), (a_50, .inl (G.2 1, 24, .inr (.inl f_b))), (a_42, .inr (5, [.ref a_1, .ref a_43, .ref a_46, .int p_n, .int (-1), .int e_l, .int 1000000, .int 0, .int e_met, .int e_c, .int 1, .int p_h, .int 0])), (a_46, .inl (G.2 0, 200, .inl f_p))] sz)) 0 0 (va_A [(a_49, .inr (7, [.ref a_1, .ref a_42, .ref a_50, .ref a_51, .int 0, .ref a_52, .ref a_53, .ref a_54, .ref a_55, .ref a_56])), (a_50, .inl (G.2 1, 24, .inr (.inl f_b))), (a_42, .inr (5, [.ref a_1, .ref a_43, .ref a_46, .int p_n, .int (-1), .int e_l, .int 1000000, .int 0, .int e_met, .int e_c, .int 1, .int p_h, .int 0])), (a_46, .inl (G.2 0, 200, .inl f_p))] sz) := by
  refine Met.ofW (cc := cX7_barPoints) (maxL := 2) (ret := none) (by decide) rfl ?_
  intro p e s m args below meth c s₁ B hml hv
  obtain ⟨rfl, hsz, hP, hK, hD0, hN, hT⟩ := hv
  have hx := B.exec
  have hb := B.bytes
  have hr := B.returns
  have hts : ∀ w ∈ tblG, w.before _ s = true := fun w h => atoms_spec (ws := (wsG yX7_barPoints cX7_barPoints 2 none)) B.pre w (List.mem_cons_of_mem _ h)
  have hown : s.vm.findClass RX7 = some m.cls := findClass_of_methodNamed B.named
  have hlocks := B.notSynchronized
  subst hsz
  have hD := hD0.self (sz := s.heap.size)
  generalize hAe : va_A [(a_49, .inr (7, [.ref a_1, .ref a_42, .ref a_50, .ref a_51, .int 0, .ref a_52, .ref a_53, .ref a_54, .ref a_55, .ref a_56])), (a_50, .inl (G.2 1, 24, .inr (.inl f_b))), (a_42, .inr (5, [.ref a_1, .ref a_43, .ref a_46, .int p_n, .int (-1), .int e_l, .int 1000000, .int 0, .int e_met, .int e_c, .int 1, .int p_h, .int 0])), (a_46, .inl (G.2 0, 200, .inl f_p))] s.heap.size = A at hD hT ⊢
  have hA : ∀ q : Nat, s.heap.size ≤ q → A q := fun q h => by rw [← hAe]; exact Or.inr h
  have hS : va_S A s.heap s.heap [] := va_S.rf
  have hP : va_P G.1 vwCl [(a_49, .inr (7, [.ref a_1, .ref a_42, .ref a_50, .ref a_51, .int 0, .ref a_52, .ref a_53, .ref a_54, .ref a_55, .ref a_56])), (a_50, .inl (G.2 1, 24, .inr (.inl f_b))), (a_42, .inr (5, [.ref a_1, .ref a_43, .ref a_46, .int p_n, .int (-1), .int e_l, .int 1000000, .int 0, .int e_met, .int e_c, .int 1, .int p_h, .int 0])), (a_46, .inl (G.2 0, 200, .inl f_p))] s.heap := hP
  have hl := lv_entry ([.ref a_49]) (n := 2) (Nat.le_of_ble_eq_true rfl)
  rw [lg_entry_eq]
  generalize (lg_sl ([.ref a_49]) ++ List.replicate (2 - (lg_sl ([.ref a_49])).length) Slot.unset).toArray = ls at hl ⊢
  have hl : lv_has ls 2 [(0, .ref a_49)] := hl
  refine lv_iconst (v := 0) hx hb dX7_barPoints_0 (by decide) ?_
  refine lv_istore_n (lv' := [(1, .int 0), (0, .ref a_49)]) hx hb dX7_barPoints_1 rfl hl (by decide) rfl (fun ls hl => ?_)
  refine g5_loop (α := (Int32) × (Nat → Int64)) (fun (q : (Int32) × (Nat → Int64)) (ls : Array Slot) (H : Heap) (locs : List Loc) => match q with | (k_i, k_g) => lv_has ls 2 [(1, .int k_i), (0, .ref a_49)] ∧ va_P G.1 vwCl [(a_49, .inr (7, [.ref a_1, .ref a_42, .ref a_50, .ref a_51, .int 0, .ref a_52, .ref a_53, .ref a_54, .ref a_55, .ref a_56])), (a_50, .inl (G.2 1, 24, .inr (.inl k_g))), (a_42, .inr (5, [.ref a_1, .ref a_43, .ref a_46, .int p_n, .int (-1), .int e_l, .int 1000000, .int 0, .int e_met, .int e_c, .int 1, .int p_h, .int 0])), (a_46, .inl (G.2 0, 200, .inl f_p))] H ∧ va_D A [(a_49, .inr (7, [.ref a_1, .ref a_42, .ref a_50, .ref a_51, .int 0, .ref a_52, .ref a_53, .ref a_54, .ref a_55, .ref a_56])), (a_50, .inl (G.2 1, 24, .inr (.inl k_g))), (a_42, .inr (5, [.ref a_1, .ref a_43, .ref a_46, .int p_n, .int (-1), .int e_l, .int 1000000, .int 0, .int e_met, .int e_c, .int 1, .int p_h, .int 0])), (a_46, .inl (G.2 0, 200, .inl f_p))] ∧ va_S A s.heap H locs ∧ (0 ≤ k_i.toInt ∧ k_i.toInt ≤ 7) ∧ (k_i.toInt ≤ p_n.toInt) ∧ (∀ j : Nat, k_g j = vp_updL f_b p_h.toInt.toNat (rayN (f_b p_h.toInt.toNat) (gW 1 p_c.toInt) k_i.toInt.toNat) j)) (fun (q : (Int32) × (Nat → Int64)) => match q with | (k_i, k_g) => Int.toNat (7 - k_i.toInt)) (0, f_b) ⟨lv_sub hl [0, 1] rfl, hP, hD, hS, ⟨by decide, by decide⟩, by have z0 : (0 : Int32).toInt = 0 := (by decide); omega, g5_bar0 (by decide)⟩ ?_
  rintro ⟨k_i, k_g⟩ ls H locs ⟨hl, hP, hD, hS, i_1, i_2, i_3⟩ ih_2_4
  have hl : lv_has ls 2 [(1, .int k_i), (0, .ref a_49)] := hl
  have i_1 : 0 ≤ k_i.toInt ∧ k_i.toInt ≤ 7 := i_1
  have i_2 : k_i.toInt ≤ p_n.toInt := i_2
  have i_3 : ∀ j : Nat, k_g j = vp_updL f_b p_h.toInt.toNat (rayN (f_b p_h.toInt.toNat) (gW 1 p_c.toInt) k_i.toInt.toNat) j := i_3
  have hP : va_P G.1 vwCl [(a_49, .inr (7, [.ref a_1, .ref a_42, .ref a_50, .ref a_51, .int 0, .ref a_52, .ref a_53, .ref a_54, .ref a_55, .ref a_56])), (a_50, .inl (G.2 1, 24, .inr (.inl k_g))), (a_42, .inr (5, [.ref a_1, .ref a_43, .ref a_46, .int p_n, .int (-1), .int e_l, .int 1000000, .int 0, .int e_met, .int e_c, .int 1, .int p_h, .int 0])), (a_46, .inl (G.2 0, 200, .inl f_p))] H := hP
  have hD : va_D A [(a_49, .inr (7, [.ref a_1, .ref a_42, .ref a_50, .ref a_51, .int 0, .ref a_52, .ref a_53, .ref a_54, .ref a_55, .ref a_56])), (a_50, .inl (G.2 1, 24, .inr (.inl k_g))), (a_42, .inr (5, [.ref a_1, .ref a_43, .ref a_46, .int p_n, .int (-1), .int e_l, .int 1000000, .int 0, .int e_met, .int e_c, .int 1, .int p_h, .int 0])), (a_46, .inl (G.2 0, 200, .inl f_p))] := hD
  refine lv_iload_n hx hb dX7_barPoints_2 rfl (lv_at hl 0 rfl) ?_
  refine lv_aload_n hx hb dX7_barPoints_3 rfl (lv_at hl 1 rfl) ?_
  refine va_get (D := G.1) (ci := 7) (v := .ref a_42) (C := RX7) (T := TX7) (N := 10) hx hb hts inG_X7 hown hK hP 0 rfl rfl 1 (by decide) (hts _ fl_X7_38) (fun _ h9 => h9) rfl dX7_barPoints_4 ?_
  refine va_get (D := G.1) (ci := 5) (v := .int p_n) (C := RX5) (T := TX5) (N := 13) hx hb hts inG_X5 hown hK hP 2 rfl rfl 3 (by decide) (hts _ fl_X7_92) (fun _ h9 => h9) rfl dX7_barPoints_7 ?_
  refine lv_icmp_ge (tgt := 53) hx hb dX7_barPoints_10 (by decide) (fun c_5 => ?_) (fun c_5 => ?_)
  ·
    have i_5 : k_i.toInt ≥ p_n.toInt := by have z := g5_ge (a := k_i.toInt) (b := p_n.toInt) (by rfl) (by rfl) c_5; omega
    exact W.vret hx hb hr (fun t ht hW => ⟨⟨[(a_49, .inr (7, [.ref a_1, .ref a_42, .ref a_50, .ref a_51, .int 0, .ref a_52, .ref a_53, .ref a_54, .ref a_55, .ref a_56])), (a_50, .inl (G.2 1, 24, .inr (.inl k_g)))], rfl, ⟨k_g, fun j => by rw [i_3 j, show k_i.toInt = p_n.toInt by omega], rfl⟩, by rw [ht]; exact hP.sub [0, 1] rfl, hD.sub [0, 1] (by decide) rfl⟩, hS.F ht⟩) hS.2.2 dX7_barPoints_53
  ·
    have i_5 : k_i.toInt < p_n.toInt := by have z := g5_geN (a := k_i.toInt) (b := p_n.toInt) (by rfl) (by rfl) c_5; omega
    refine lv_aload_n hx hb dX7_barPoints_13 rfl (lv_at hl 1 rfl) ?_
    refine va_get (D := G.1) (ci := 7) (v := .ref a_50) (C := RX7) (T := TX7) (N := 10) hx hb hts inG_X7 hown hK hP 0 rfl rfl 2 (by decide) (hts _ fl_X7_9) (fun _ h9 => h9) rfl dX7_barPoints_14 ?_
    refine lv_aload_n hx hb dX7_barPoints_17 rfl (lv_at hl 1 rfl) ?_
    refine va_get (D := G.1) (ci := 7) (v := .ref a_42) (C := RX7) (T := TX7) (N := 10) hx hb hts inG_X7 hown hK hP 0 rfl rfl 1 (by decide) (hts _ fl_X7_38) (fun _ h9 => h9) rfl dX7_barPoints_18 ?_
    refine va_get (D := G.1) (ci := 5) (v := .ref a_46) (C := RX5) (T := TX5) (N := 13) hx hb hts inG_X5 hown hK hP 2 rfl rfl 2 (by decide) (hts _ fl_X7_95) (fun _ h9 => h9) rfl dX7_barPoints_21 ?_
    refine lv_iload_n hx hb dX7_barPoints_24 rfl (lv_at hl 0 rfl) ?_
    have tz_6 := g5_clamp k_i
    have t_6 := e_p (k_i.toNatClampNeg) (by omega)
    refine va_iald hx hb hK hP 3 0 rfl rfl (i := k_i) (vp_in_iff.mpr ⟨by omega, by omega⟩) dX7_barPoints_25 ?_
    refine lv_bipush (v := 64) hx hb dX7_barPoints_26 (by decide) ?_
    refine lv_idiv hx hb dX7_barPoints_28 (by decide) ?_
    have t_7 : ((f_p k_i.toNatClampNeg) / 64).toInt = (f_p k_i.toNatClampNeg).toInt / 64 := g5_idiv (a := (f_p k_i.toNatClampNeg).toInt) (b := 64) rfl (by decide) (by omega) (by decide)
    refine lv_dup2_11 hx hb dX7_barPoints_29 rfl rfl ?_
    refine va_lald hx hb hK hP 1 1 rfl rfl (i := ((f_p k_i.toNatClampNeg) / 64)) (vp_in_iff.mpr ⟨by omega, by omega⟩) dX7_barPoints_30 ?_
    refine lv_lconst (v := 1) hx hb dX7_barPoints_31 (by decide) ?_
    refine lv_aload_n hx hb dX7_barPoints_32 rfl (lv_at hl 1 rfl) ?_
    refine va_get (D := G.1) (ci := 7) (v := .ref a_42) (C := RX7) (T := TX7) (N := 10) hx hb hts inG_X7 hown hK hP 0 rfl rfl 1 (by decide) (hts _ fl_X7_38) (fun _ h9 => h9) rfl dX7_barPoints_33 ?_
    refine va_get (D := G.1) (ci := 5) (v := .ref a_46) (C := RX5) (T := TX5) (N := 13) hx hb hts inG_X5 hown hK hP 2 rfl rfl 2 (by decide) (hts _ fl_X7_95) (fun _ h9 => h9) rfl dX7_barPoints_36 ?_
    refine lv_iload_n hx hb dX7_barPoints_39 rfl (lv_at hl 0 rfl) ?_
    have tz_8 := g5_clamp k_i
    have t_8 := e_p (k_i.toNatClampNeg) (by omega)
    refine va_iald hx hb hK hP 3 0 rfl rfl (i := k_i) (vp_in_iff.mpr ⟨by omega, by omega⟩) dX7_barPoints_40 ?_
    refine lv_bipush (v := 64) hx hb dX7_barPoints_41 (by decide) ?_
    refine lv_irem hx hb dX7_barPoints_43 (by decide) ?_
    have t_9 : ((f_p k_i.toNatClampNeg) - (f_p k_i.toNatClampNeg) / 64 * 64).toInt = (f_p k_i.toNatClampNeg).toInt % 64 := g5_irem (a := (f_p k_i.toNatClampNeg).toInt) (b := 64) rfl (by decide) (by omega) (by decide)
    refine lv_lshl (v := ((1 : Int64) <<< (((f_p k_i.toNatClampNeg) - (f_p k_i.toNatClampNeg) / 64 * 64).toInt64 &&& 63))) hx hb dX7_barPoints_44 rfl ?_
    refine lv_lor hx hb dX7_barPoints_45 ?_
    refine va_last hx hb hK hP hD hS 1 1 rfl rfl (i := ((f_p k_i.toNatClampNeg) / 64)) (x := ((k_g ((f_p k_i.toNatClampNeg) / 64).toNatClampNeg) ||| ((1 : Int64) <<< (((f_p k_i.toNatClampNeg) - (f_p k_i.toNatClampNeg) / 64 * 64).toInt64 &&& 63)))) (vp_in_iff.mpr ⟨by omega, by omega⟩) dX7_barPoints_46 (fun H locs hP hD hS => ?_)
    have hP : va_P G.1 vwCl [(a_49, .inr (7, [.ref a_1, .ref a_42, .ref a_50, .ref a_51, .int 0, .ref a_52, .ref a_53, .ref a_54, .ref a_55, .ref a_56])), (a_50, .inl (G.2 1, 24, .inr (.inl (vp_updL k_g ((f_p k_i.toNatClampNeg) / 64).toNatClampNeg ((k_g ((f_p k_i.toNatClampNeg) / 64).toNatClampNeg) ||| ((1 : Int64) <<< (((f_p k_i.toNatClampNeg) - (f_p k_i.toNatClampNeg) / 64 * 64).toInt64 &&& 63))))))), (a_42, .inr (5, [.ref a_1, .ref a_43, .ref a_46, .int p_n, .int (-1), .int e_l, .int 1000000, .int 0, .int e_met, .int e_c, .int 1, .int p_h, .int 0])), (a_46, .inl (G.2 0, 200, .inl f_p))] H := hP
    have hD : va_D A [(a_49, .inr (7, [.ref a_1, .ref a_42, .ref a_50, .ref a_51, .int 0, .ref a_52, .ref a_53, .ref a_54, .ref a_55, .ref a_56])), (a_50, .inl (G.2 1, 24, .inr (.inl (vp_updL k_g ((f_p k_i.toNatClampNeg) / 64).toNatClampNeg ((k_g ((f_p k_i.toNatClampNeg) / 64).toNatClampNeg) ||| ((1 : Int64) <<< (((f_p k_i.toNatClampNeg) - (f_p k_i.toNatClampNeg) / 64 * 64).toInt64 &&& 63))))))), (a_42, .inr (5, [.ref a_1, .ref a_43, .ref a_46, .int p_n, .int (-1), .int e_l, .int 1000000, .int 0, .int e_met, .int e_c, .int 1, .int p_h, .int 0])), (a_46, .inl (G.2 0, 200, .inl f_p))] := hD
    refine lv_iinc (v := (k_i + 1)) (lv' := [(1, .int (k_i + 1)), (0, .ref a_49)]) hx hb dX7_barPoints_47 hl (k := 0) rfl rfl (by decide) rfl (fun ls hl => ?_)
    have t_10 : (k_i + 1).toInt = k_i.toInt + 1 := g5_iadd (a := k_i.toInt) (b := 1) rfl (by decide) (by omega) (by omega)
    refine lv_goto (tgt := 2) hx hb dX7_barPoints_50 (by decide) ?_
    exact ih_2_4 ((k_i + 1), (vp_updL k_g ((f_p k_i.toNatClampNeg) / 64).toNatClampNeg ((k_g ((f_p k_i.toNatClampNeg) / 64).toNatClampNeg) ||| ((1 : Int64) <<< (((f_p k_i.toNatClampNeg) - (f_p k_i.toNatClampNeg) / 64 * 64).toInt64 &&& 63))))) ls H locs (show Int.toNat (7 - (k_i + 1).toInt) < Int.toNat (7 - k_i.toInt) by omega) ⟨lv_sub hl [0, 1] rfl, hP, hD, hS, ⟨by omega, by omega⟩, by omega, g5_bar i_3 (by omega) (by omega) (by omega) (by unfold gW; simp only [if_true, reduceIte, Nat.reduceEqDiff]; omega) (by omega)⟩
set_option maxHeartbeats 4000000 in
set_option maxRecDepth 100000 in
theorem k_barPoints2 (l : Launch) (G : g5_G) (a_49 a_50 a_42 a_46 a_1 a_51 a_52 a_53 a_54 a_55 a_56 a_43 : Nat) (sz : Nat) (p_n : Int32) (p_h : Int32) (p_c : Int32) (e_l : Int32) (e_met : Int32) (e_c : Int32) (f_b : Nat → Int64) (f_p : Nat → Int32) (h_p_n : 0 ≤ p_n.toInt ∧ p_n.toInt ≤ 7) (h_p_h : 0 ≤ p_h.toInt ∧ p_h.toInt ≤ 23) (h_p_c : 0 ≤ p_c.toInt ∧ p_c.toInt ≤ 63) (e_p : ∀ j : Nat, (j : Int) < p_n.toInt → (f_p j).toInt = p_h.toInt * 64 + (p_c.toInt + 8 * ((j : Int) + 1))) (e_n : p_n.toInt = 7 - p_c.toInt / 8) : Met l yX7_barPoints (wsG yX7_barPoints cX7_barPoints 2 none) ({ frames := 0, cells := 0, slots := 0, locals := 0 }) (va_Pc [.ref a_49] (g5_P G [(a_49, .inr (7, [.ref a_1, .ref a_42, .ref a_50, .ref a_51, .int 0, .ref a_52, .ref a_53, .ref a_54, .ref a_55, .ref a_56])), (a_50, .inl (G.2 1, 24, .inr (.inl f_b))), (a_42, .inr (5, [.ref a_1, .ref a_43, .ref a_46, .int p_n, .int (-1), .int e_l, .int 1000000, .int 0, .int e_met, .int e_c, .int 2, .int p_h, .int 0])), (a_46, .inl (G.2 0, 200, .inl f_p))] sz)) (va_Qv (fun (u : va_W) => (∃ (o_b : Nat → Int64), (∀ j : Nat, o_b j = vp_updL f_b p_h.toInt.toNat (rayN (f_b p_h.toInt.toNat) (gW 2 p_c.toInt) p_n.toInt.toNat) j) ∧ (u = [(a_49, .inr (7, [.ref a_1, .ref a_42, .ref a_50, .ref a_51, .int 0, .ref a_52, .ref a_53, .ref a_54, .ref a_55, .ref a_56])), (a_50, .inl (G.2 1, 24, .inr (.inl o_b)))]))) (g5_B G (va_A [(a_49, .inr (7, [.ref a_1, .ref a_42, .ref a_50, .ref a_51, .int 0, .ref a_52, .ref a_53, .ref a_54, .ref a_55, .ref a_56])), (a_50, .inl (G.2 1, 24, .inr (.inl f_b))), (a_42, .inr (5, [.ref a_1, .ref a_43, .ref a_46, .int p_n, .int (-1), .int e_l, .int 1000000, .int 0, .int e_met, .int e_c, .int 2, .int p_h, .int 0])), (a_46, .inl (G.2 0, 200, .inl f_p))] sz)) (va_A [(a_49, .inr (7, [.ref a_1, .ref a_42, .ref a_50, .ref a_51, .int 0, .ref a_52, .ref a_53, .ref a_54, .ref a_55, .ref a_56])), (a_50, .inl (G.2 1, 24, .inr (.inl f_b))), (a_42, .inr (5, [.ref a_1, .ref a_43, .ref a_46, .int p_n, .int (-1), .int e_l, .int 1000000, .int 0, .int e_met, .int e_c, .int 2, .int p_h, .int 0])), (a_46, .inl (G.2 0, 200, .inl f_p))] sz)) 0 0 (va_A [(a_49, .inr (7, [.ref a_1, .ref a_42, .ref a_50, .ref a_51, .int 0, .ref a_52, .ref a_53, .ref a_54, .ref a_55, .ref a_56])), (a_50, .inl (G.2 1, 24, .inr (.inl f_b))), (a_42, .inr (5, [.ref a_1, .ref a_43, .ref a_46, .int p_n, .int (-1), .int e_l, .int 1000000, .int 0, .int e_met, .int e_c, .int 2, .int p_h, .int 0])), (a_46, .inl (G.2 0, 200, .inl f_p))] sz) := by
  refine Met.ofW (cc := cX7_barPoints) (maxL := 2) (ret := none) (by decide) rfl ?_
  intro p e s m args below meth c s₁ B hml hv
  obtain ⟨rfl, hsz, hP, hK, hD0, hN, hT⟩ := hv
  have hx := B.exec
  have hb := B.bytes
  have hr := B.returns
  have hts : ∀ w ∈ tblG, w.before _ s = true := fun w h => atoms_spec (ws := (wsG yX7_barPoints cX7_barPoints 2 none)) B.pre w (List.mem_cons_of_mem _ h)
  have hown : s.vm.findClass RX7 = some m.cls := findClass_of_methodNamed B.named
  have hlocks := B.notSynchronized
  subst hsz
  have hD := hD0.self (sz := s.heap.size)
  generalize hAe : va_A [(a_49, .inr (7, [.ref a_1, .ref a_42, .ref a_50, .ref a_51, .int 0, .ref a_52, .ref a_53, .ref a_54, .ref a_55, .ref a_56])), (a_50, .inl (G.2 1, 24, .inr (.inl f_b))), (a_42, .inr (5, [.ref a_1, .ref a_43, .ref a_46, .int p_n, .int (-1), .int e_l, .int 1000000, .int 0, .int e_met, .int e_c, .int 2, .int p_h, .int 0])), (a_46, .inl (G.2 0, 200, .inl f_p))] s.heap.size = A at hD hT ⊢
  have hA : ∀ q : Nat, s.heap.size ≤ q → A q := fun q h => by rw [← hAe]; exact Or.inr h
  have hS : va_S A s.heap s.heap [] := va_S.rf
  have hP : va_P G.1 vwCl [(a_49, .inr (7, [.ref a_1, .ref a_42, .ref a_50, .ref a_51, .int 0, .ref a_52, .ref a_53, .ref a_54, .ref a_55, .ref a_56])), (a_50, .inl (G.2 1, 24, .inr (.inl f_b))), (a_42, .inr (5, [.ref a_1, .ref a_43, .ref a_46, .int p_n, .int (-1), .int e_l, .int 1000000, .int 0, .int e_met, .int e_c, .int 2, .int p_h, .int 0])), (a_46, .inl (G.2 0, 200, .inl f_p))] s.heap := hP
  have hl := lv_entry ([.ref a_49]) (n := 2) (Nat.le_of_ble_eq_true rfl)
  rw [lg_entry_eq]
  generalize (lg_sl ([.ref a_49]) ++ List.replicate (2 - (lg_sl ([.ref a_49])).length) Slot.unset).toArray = ls at hl ⊢
  have hl : lv_has ls 2 [(0, .ref a_49)] := hl
  refine lv_iconst (v := 0) hx hb dX7_barPoints_0 (by decide) ?_
  refine lv_istore_n (lv' := [(1, .int 0), (0, .ref a_49)]) hx hb dX7_barPoints_1 rfl hl (by decide) rfl (fun ls hl => ?_)
  refine g5_loop (α := (Int32) × (Nat → Int64)) (fun (q : (Int32) × (Nat → Int64)) (ls : Array Slot) (H : Heap) (locs : List Loc) => match q with | (k_i, k_g) => lv_has ls 2 [(1, .int k_i), (0, .ref a_49)] ∧ va_P G.1 vwCl [(a_49, .inr (7, [.ref a_1, .ref a_42, .ref a_50, .ref a_51, .int 0, .ref a_52, .ref a_53, .ref a_54, .ref a_55, .ref a_56])), (a_50, .inl (G.2 1, 24, .inr (.inl k_g))), (a_42, .inr (5, [.ref a_1, .ref a_43, .ref a_46, .int p_n, .int (-1), .int e_l, .int 1000000, .int 0, .int e_met, .int e_c, .int 2, .int p_h, .int 0])), (a_46, .inl (G.2 0, 200, .inl f_p))] H ∧ va_D A [(a_49, .inr (7, [.ref a_1, .ref a_42, .ref a_50, .ref a_51, .int 0, .ref a_52, .ref a_53, .ref a_54, .ref a_55, .ref a_56])), (a_50, .inl (G.2 1, 24, .inr (.inl k_g))), (a_42, .inr (5, [.ref a_1, .ref a_43, .ref a_46, .int p_n, .int (-1), .int e_l, .int 1000000, .int 0, .int e_met, .int e_c, .int 2, .int p_h, .int 0])), (a_46, .inl (G.2 0, 200, .inl f_p))] ∧ va_S A s.heap H locs ∧ (0 ≤ k_i.toInt ∧ k_i.toInt ≤ 7) ∧ (k_i.toInt ≤ p_n.toInt) ∧ (∀ j : Nat, k_g j = vp_updL f_b p_h.toInt.toNat (rayN (f_b p_h.toInt.toNat) (gW 2 p_c.toInt) k_i.toInt.toNat) j)) (fun (q : (Int32) × (Nat → Int64)) => match q with | (k_i, k_g) => Int.toNat (7 - k_i.toInt)) (0, f_b) ⟨lv_sub hl [0, 1] rfl, hP, hD, hS, ⟨by decide, by decide⟩, by have z0 : (0 : Int32).toInt = 0 := (by decide); omega, g5_bar0 (by decide)⟩ ?_
  rintro ⟨k_i, k_g⟩ ls H locs ⟨hl, hP, hD, hS, i_1, i_2, i_3⟩ ih_2_4
  have hl : lv_has ls 2 [(1, .int k_i), (0, .ref a_49)] := hl
  have i_1 : 0 ≤ k_i.toInt ∧ k_i.toInt ≤ 7 := i_1
  have i_2 : k_i.toInt ≤ p_n.toInt := i_2
  have i_3 : ∀ j : Nat, k_g j = vp_updL f_b p_h.toInt.toNat (rayN (f_b p_h.toInt.toNat) (gW 2 p_c.toInt) k_i.toInt.toNat) j := i_3
  have hP : va_P G.1 vwCl [(a_49, .inr (7, [.ref a_1, .ref a_42, .ref a_50, .ref a_51, .int 0, .ref a_52, .ref a_53, .ref a_54, .ref a_55, .ref a_56])), (a_50, .inl (G.2 1, 24, .inr (.inl k_g))), (a_42, .inr (5, [.ref a_1, .ref a_43, .ref a_46, .int p_n, .int (-1), .int e_l, .int 1000000, .int 0, .int e_met, .int e_c, .int 2, .int p_h, .int 0])), (a_46, .inl (G.2 0, 200, .inl f_p))] H := hP
  have hD : va_D A [(a_49, .inr (7, [.ref a_1, .ref a_42, .ref a_50, .ref a_51, .int 0, .ref a_52, .ref a_53, .ref a_54, .ref a_55, .ref a_56])), (a_50, .inl (G.2 1, 24, .inr (.inl k_g))), (a_42, .inr (5, [.ref a_1, .ref a_43, .ref a_46, .int p_n, .int (-1), .int e_l, .int 1000000, .int 0, .int e_met, .int e_c, .int 2, .int p_h, .int 0])), (a_46, .inl (G.2 0, 200, .inl f_p))] := hD
  refine lv_iload_n hx hb dX7_barPoints_2 rfl (lv_at hl 0 rfl) ?_
  refine lv_aload_n hx hb dX7_barPoints_3 rfl (lv_at hl 1 rfl) ?_
  refine va_get (D := G.1) (ci := 7) (v := .ref a_42) (C := RX7) (T := TX7) (N := 10) hx hb hts inG_X7 hown hK hP 0 rfl rfl 1 (by decide) (hts _ fl_X7_38) (fun _ h9 => h9) rfl dX7_barPoints_4 ?_
  refine va_get (D := G.1) (ci := 5) (v := .int p_n) (C := RX5) (T := TX5) (N := 13) hx hb hts inG_X5 hown hK hP 2 rfl rfl 3 (by decide) (hts _ fl_X7_92) (fun _ h9 => h9) rfl dX7_barPoints_7 ?_
  refine lv_icmp_ge (tgt := 53) hx hb dX7_barPoints_10 (by decide) (fun c_5 => ?_) (fun c_5 => ?_)
  ·
    have i_5 : k_i.toInt ≥ p_n.toInt := by have z := g5_ge (a := k_i.toInt) (b := p_n.toInt) (by rfl) (by rfl) c_5; omega
    exact W.vret hx hb hr (fun t ht hW => ⟨⟨[(a_49, .inr (7, [.ref a_1, .ref a_42, .ref a_50, .ref a_51, .int 0, .ref a_52, .ref a_53, .ref a_54, .ref a_55, .ref a_56])), (a_50, .inl (G.2 1, 24, .inr (.inl k_g)))], rfl, ⟨k_g, fun j => by rw [i_3 j, show k_i.toInt = p_n.toInt by omega], rfl⟩, by rw [ht]; exact hP.sub [0, 1] rfl, hD.sub [0, 1] (by decide) rfl⟩, hS.F ht⟩) hS.2.2 dX7_barPoints_53
  ·
    have i_5 : k_i.toInt < p_n.toInt := by have z := g5_geN (a := k_i.toInt) (b := p_n.toInt) (by rfl) (by rfl) c_5; omega
    refine lv_aload_n hx hb dX7_barPoints_13 rfl (lv_at hl 1 rfl) ?_
    refine va_get (D := G.1) (ci := 7) (v := .ref a_50) (C := RX7) (T := TX7) (N := 10) hx hb hts inG_X7 hown hK hP 0 rfl rfl 2 (by decide) (hts _ fl_X7_9) (fun _ h9 => h9) rfl dX7_barPoints_14 ?_
    refine lv_aload_n hx hb dX7_barPoints_17 rfl (lv_at hl 1 rfl) ?_
    refine va_get (D := G.1) (ci := 7) (v := .ref a_42) (C := RX7) (T := TX7) (N := 10) hx hb hts inG_X7 hown hK hP 0 rfl rfl 1 (by decide) (hts _ fl_X7_38) (fun _ h9 => h9) rfl dX7_barPoints_18 ?_
    refine va_get (D := G.1) (ci := 5) (v := .ref a_46) (C := RX5) (T := TX5) (N := 13) hx hb hts inG_X5 hown hK hP 2 rfl rfl 2 (by decide) (hts _ fl_X7_95) (fun _ h9 => h9) rfl dX7_barPoints_21 ?_
    refine lv_iload_n hx hb dX7_barPoints_24 rfl (lv_at hl 0 rfl) ?_
    have tz_6 := g5_clamp k_i
    have t_6 := e_p (k_i.toNatClampNeg) (by omega)
    refine va_iald hx hb hK hP 3 0 rfl rfl (i := k_i) (vp_in_iff.mpr ⟨by omega, by omega⟩) dX7_barPoints_25 ?_
    refine lv_bipush (v := 64) hx hb dX7_barPoints_26 (by decide) ?_
    refine lv_idiv hx hb dX7_barPoints_28 (by decide) ?_
    have t_7 : ((f_p k_i.toNatClampNeg) / 64).toInt = (f_p k_i.toNatClampNeg).toInt / 64 := g5_idiv (a := (f_p k_i.toNatClampNeg).toInt) (b := 64) rfl (by decide) (by omega) (by decide)
    refine lv_dup2_11 hx hb dX7_barPoints_29 rfl rfl ?_
    refine va_lald hx hb hK hP 1 1 rfl rfl (i := ((f_p k_i.toNatClampNeg) / 64)) (vp_in_iff.mpr ⟨by omega, by omega⟩) dX7_barPoints_30 ?_
    refine lv_lconst (v := 1) hx hb dX7_barPoints_31 (by decide) ?_
    refine lv_aload_n hx hb dX7_barPoints_32 rfl (lv_at hl 1 rfl) ?_
    refine va_get (D := G.1) (ci := 7) (v := .ref a_42) (C := RX7) (T := TX7) (N := 10) hx hb hts inG_X7 hown hK hP 0 rfl rfl 1 (by decide) (hts _ fl_X7_38) (fun _ h9 => h9) rfl dX7_barPoints_33 ?_
    refine va_get (D := G.1) (ci := 5) (v := .ref a_46) (C := RX5) (T := TX5) (N := 13) hx hb hts inG_X5 hown hK hP 2 rfl rfl 2 (by decide) (hts _ fl_X7_95) (fun _ h9 => h9) rfl dX7_barPoints_36 ?_
    refine lv_iload_n hx hb dX7_barPoints_39 rfl (lv_at hl 0 rfl) ?_
    have tz_8 := g5_clamp k_i
    have t_8 := e_p (k_i.toNatClampNeg) (by omega)
    refine va_iald hx hb hK hP 3 0 rfl rfl (i := k_i) (vp_in_iff.mpr ⟨by omega, by omega⟩) dX7_barPoints_40 ?_
    refine lv_bipush (v := 64) hx hb dX7_barPoints_41 (by decide) ?_
    refine lv_irem hx hb dX7_barPoints_43 (by decide) ?_
    have t_9 : ((f_p k_i.toNatClampNeg) - (f_p k_i.toNatClampNeg) / 64 * 64).toInt = (f_p k_i.toNatClampNeg).toInt % 64 := g5_irem (a := (f_p k_i.toNatClampNeg).toInt) (b := 64) rfl (by decide) (by omega) (by decide)
    refine lv_lshl (v := ((1 : Int64) <<< (((f_p k_i.toNatClampNeg) - (f_p k_i.toNatClampNeg) / 64 * 64).toInt64 &&& 63))) hx hb dX7_barPoints_44 rfl ?_
    refine lv_lor hx hb dX7_barPoints_45 ?_
    refine va_last hx hb hK hP hD hS 1 1 rfl rfl (i := ((f_p k_i.toNatClampNeg) / 64)) (x := ((k_g ((f_p k_i.toNatClampNeg) / 64).toNatClampNeg) ||| ((1 : Int64) <<< (((f_p k_i.toNatClampNeg) - (f_p k_i.toNatClampNeg) / 64 * 64).toInt64 &&& 63)))) (vp_in_iff.mpr ⟨by omega, by omega⟩) dX7_barPoints_46 (fun H locs hP hD hS => ?_)
    have hP : va_P G.1 vwCl [(a_49, .inr (7, [.ref a_1, .ref a_42, .ref a_50, .ref a_51, .int 0, .ref a_52, .ref a_53, .ref a_54, .ref a_55, .ref a_56])), (a_50, .inl (G.2 1, 24, .inr (.inl (vp_updL k_g ((f_p k_i.toNatClampNeg) / 64).toNatClampNeg ((k_g ((f_p k_i.toNatClampNeg) / 64).toNatClampNeg) ||| ((1 : Int64) <<< (((f_p k_i.toNatClampNeg) - (f_p k_i.toNatClampNeg) / 64 * 64).toInt64 &&& 63))))))), (a_42, .inr (5, [.ref a_1, .ref a_43, .ref a_46, .int p_n, .int (-1), .int e_l, .int 1000000, .int 0, .int e_met, .int e_c, .int 2, .int p_h, .int 0])), (a_46, .inl (G.2 0, 200, .inl f_p))] H := hP
    have hD : va_D A [(a_49, .inr (7, [.ref a_1, .ref a_42, .ref a_50, .ref a_51, .int 0, .ref a_52, .ref a_53, .ref a_54, .ref a_55, .ref a_56])), (a_50, .inl (G.2 1, 24, .inr (.inl (vp_updL k_g ((f_p k_i.toNatClampNeg) / 64).toNatClampNeg ((k_g ((f_p k_i.toNatClampNeg) / 64).toNatClampNeg) ||| ((1 : Int64) <<< (((f_p k_i.toNatClampNeg) - (f_p k_i.toNatClampNeg) / 64 * 64).toInt64 &&& 63))))))), (a_42, .inr (5, [.ref a_1, .ref a_43, .ref a_46, .int p_n, .int (-1), .int e_l, .int 1000000, .int 0, .int e_met, .int e_c, .int 2, .int p_h, .int 0])), (a_46, .inl (G.2 0, 200, .inl f_p))] := hD
    refine lv_iinc (v := (k_i + 1)) (lv' := [(1, .int (k_i + 1)), (0, .ref a_49)]) hx hb dX7_barPoints_47 hl (k := 0) rfl rfl (by decide) rfl (fun ls hl => ?_)
    have t_10 : (k_i + 1).toInt = k_i.toInt + 1 := g5_iadd (a := k_i.toInt) (b := 1) rfl (by decide) (by omega) (by omega)
    refine lv_goto (tgt := 2) hx hb dX7_barPoints_50 (by decide) ?_
    exact ih_2_4 ((k_i + 1), (vp_updL k_g ((f_p k_i.toNatClampNeg) / 64).toNatClampNeg ((k_g ((f_p k_i.toNatClampNeg) / 64).toNatClampNeg) ||| ((1 : Int64) <<< (((f_p k_i.toNatClampNeg) - (f_p k_i.toNatClampNeg) / 64 * 64).toInt64 &&& 63))))) ls H locs (show Int.toNat (7 - (k_i + 1).toInt) < Int.toNat (7 - k_i.toInt) by omega) ⟨lv_sub hl [0, 1] rfl, hP, hD, hS, ⟨by omega, by omega⟩, by omega, g5_bar i_3 (by omega) (by omega) (by omega) (by unfold gW; simp only [if_true, reduceIte, Nat.reduceEqDiff]; omega) (by omega)⟩
set_option maxHeartbeats 4000000 in
set_option maxRecDepth 100000 in
theorem k_barPoints3 (l : Launch) (G : g5_G) (a_49 a_50 a_42 a_46 a_1 a_51 a_52 a_53 a_54 a_55 a_56 a_43 : Nat) (sz : Nat) (p_n : Int32) (p_h : Int32) (p_c : Int32) (e_l : Int32) (e_met : Int32) (e_c : Int32) (f_b : Nat → Int64) (f_p : Nat → Int32) (h_p_n : 0 ≤ p_n.toInt ∧ p_n.toInt ≤ 7) (h_p_h : 0 ≤ p_h.toInt ∧ p_h.toInt ≤ 23) (h_p_c : 0 ≤ p_c.toInt ∧ p_c.toInt ≤ 63) (e_p : ∀ j : Nat, (j : Int) < p_n.toInt → (f_p j).toInt = p_h.toInt * 64 + (p_c.toInt - ((j : Int) + 1))) (e_n : p_n.toInt = p_c.toInt % 8) : Met l yX7_barPoints (wsG yX7_barPoints cX7_barPoints 2 none) ({ frames := 0, cells := 0, slots := 0, locals := 0 }) (va_Pc [.ref a_49] (g5_P G [(a_49, .inr (7, [.ref a_1, .ref a_42, .ref a_50, .ref a_51, .int 0, .ref a_52, .ref a_53, .ref a_54, .ref a_55, .ref a_56])), (a_50, .inl (G.2 1, 24, .inr (.inl f_b))), (a_42, .inr (5, [.ref a_1, .ref a_43, .ref a_46, .int p_n, .int (-1), .int e_l, .int 1000000, .int 0, .int e_met, .int e_c, .int 3, .int p_h, .int 0])), (a_46, .inl (G.2 0, 200, .inl f_p))] sz)) (va_Qv (fun (u : va_W) => (∃ (o_b : Nat → Int64), (∀ j : Nat, o_b j = vp_updL f_b p_h.toInt.toNat (rayN (f_b p_h.toInt.toNat) (gW 3 p_c.toInt) p_n.toInt.toNat) j) ∧ (u = [(a_49, .inr (7, [.ref a_1, .ref a_42, .ref a_50, .ref a_51, .int 0, .ref a_52, .ref a_53, .ref a_54, .ref a_55, .ref a_56])), (a_50, .inl (G.2 1, 24, .inr (.inl o_b)))]))) (g5_B G (va_A [(a_49, .inr (7, [.ref a_1, .ref a_42, .ref a_50, .ref a_51, .int 0, .ref a_52, .ref a_53, .ref a_54, .ref a_55, .ref a_56])), (a_50, .inl (G.2 1, 24, .inr (.inl f_b))), (a_42, .inr (5, [.ref a_1, .ref a_43, .ref a_46, .int p_n, .int (-1), .int e_l, .int 1000000, .int 0, .int e_met, .int e_c, .int 3, .int p_h, .int 0])), (a_46, .inl (G.2 0, 200, .inl f_p))] sz)) (va_A [(a_49, .inr (7, [.ref a_1, .ref a_42, .ref a_50, .ref a_51, .int 0, .ref a_52, .ref a_53, .ref a_54, .ref a_55, .ref a_56])), (a_50, .inl (G.2 1, 24, .inr (.inl f_b))), (a_42, .inr (5, [.ref a_1, .ref a_43, .ref a_46, .int p_n, .int (-1), .int e_l, .int 1000000, .int 0, .int e_met, .int e_c, .int 3, .int p_h, .int 0])), (a_46, .inl (G.2 0, 200, .inl f_p))] sz)) 0 0 (va_A [(a_49, .inr (7, [.ref a_1, .ref a_42, .ref a_50, .ref a_51, .int 0, .ref a_52, .ref a_53, .ref a_54, .ref a_55, .ref a_56])), (a_50, .inl (G.2 1, 24, .inr (.inl f_b))), (a_42, .inr (5, [.ref a_1, .ref a_43, .ref a_46, .int p_n, .int (-1), .int e_l, .int 1000000, .int 0, .int e_met, .int e_c, .int 3, .int p_h, .int 0])), (a_46, .inl (G.2 0, 200, .inl f_p))] sz) := by
  refine Met.ofW (cc := cX7_barPoints) (maxL := 2) (ret := none) (by decide) rfl ?_
  intro p e s m args below meth c s₁ B hml hv
  obtain ⟨rfl, hsz, hP, hK, hD0, hN, hT⟩ := hv
  have hx := B.exec
  have hb := B.bytes
  have hr := B.returns
  have hts : ∀ w ∈ tblG, w.before _ s = true := fun w h => atoms_spec (ws := (wsG yX7_barPoints cX7_barPoints 2 none)) B.pre w (List.mem_cons_of_mem _ h)
  have hown : s.vm.findClass RX7 = some m.cls := findClass_of_methodNamed B.named
  have hlocks := B.notSynchronized
  subst hsz
  have hD := hD0.self (sz := s.heap.size)
  generalize hAe : va_A [(a_49, .inr (7, [.ref a_1, .ref a_42, .ref a_50, .ref a_51, .int 0, .ref a_52, .ref a_53, .ref a_54, .ref a_55, .ref a_56])), (a_50, .inl (G.2 1, 24, .inr (.inl f_b))), (a_42, .inr (5, [.ref a_1, .ref a_43, .ref a_46, .int p_n, .int (-1), .int e_l, .int 1000000, .int 0, .int e_met, .int e_c, .int 3, .int p_h, .int 0])), (a_46, .inl (G.2 0, 200, .inl f_p))] s.heap.size = A at hD hT ⊢
  have hA : ∀ q : Nat, s.heap.size ≤ q → A q := fun q h => by rw [← hAe]; exact Or.inr h
  have hS : va_S A s.heap s.heap [] := va_S.rf
  have hP : va_P G.1 vwCl [(a_49, .inr (7, [.ref a_1, .ref a_42, .ref a_50, .ref a_51, .int 0, .ref a_52, .ref a_53, .ref a_54, .ref a_55, .ref a_56])), (a_50, .inl (G.2 1, 24, .inr (.inl f_b))), (a_42, .inr (5, [.ref a_1, .ref a_43, .ref a_46, .int p_n, .int (-1), .int e_l, .int 1000000, .int 0, .int e_met, .int e_c, .int 3, .int p_h, .int 0])), (a_46, .inl (G.2 0, 200, .inl f_p))] s.heap := hP
  have hl := lv_entry ([.ref a_49]) (n := 2) (Nat.le_of_ble_eq_true rfl)
  rw [lg_entry_eq]
  generalize (lg_sl ([.ref a_49]) ++ List.replicate (2 - (lg_sl ([.ref a_49])).length) Slot.unset).toArray = ls at hl ⊢
  have hl : lv_has ls 2 [(0, .ref a_49)] := hl
  refine lv_iconst (v := 0) hx hb dX7_barPoints_0 (by decide) ?_
  refine lv_istore_n (lv' := [(1, .int 0), (0, .ref a_49)]) hx hb dX7_barPoints_1 rfl hl (by decide) rfl (fun ls hl => ?_)
  refine g5_loop (α := (Int32) × (Nat → Int64)) (fun (q : (Int32) × (Nat → Int64)) (ls : Array Slot) (H : Heap) (locs : List Loc) => match q with | (k_i, k_g) => lv_has ls 2 [(1, .int k_i), (0, .ref a_49)] ∧ va_P G.1 vwCl [(a_49, .inr (7, [.ref a_1, .ref a_42, .ref a_50, .ref a_51, .int 0, .ref a_52, .ref a_53, .ref a_54, .ref a_55, .ref a_56])), (a_50, .inl (G.2 1, 24, .inr (.inl k_g))), (a_42, .inr (5, [.ref a_1, .ref a_43, .ref a_46, .int p_n, .int (-1), .int e_l, .int 1000000, .int 0, .int e_met, .int e_c, .int 3, .int p_h, .int 0])), (a_46, .inl (G.2 0, 200, .inl f_p))] H ∧ va_D A [(a_49, .inr (7, [.ref a_1, .ref a_42, .ref a_50, .ref a_51, .int 0, .ref a_52, .ref a_53, .ref a_54, .ref a_55, .ref a_56])), (a_50, .inl (G.2 1, 24, .inr (.inl k_g))), (a_42, .inr (5, [.ref a_1, .ref a_43, .ref a_46, .int p_n, .int (-1), .int e_l, .int 1000000, .int 0, .int e_met, .int e_c, .int 3, .int p_h, .int 0])), (a_46, .inl (G.2 0, 200, .inl f_p))] ∧ va_S A s.heap H locs ∧ (0 ≤ k_i.toInt ∧ k_i.toInt ≤ 7) ∧ (k_i.toInt ≤ p_n.toInt) ∧ (∀ j : Nat, k_g j = vp_updL f_b p_h.toInt.toNat (rayN (f_b p_h.toInt.toNat) (gW 3 p_c.toInt) k_i.toInt.toNat) j)) (fun (q : (Int32) × (Nat → Int64)) => match q with | (k_i, k_g) => Int.toNat (7 - k_i.toInt)) (0, f_b) ⟨lv_sub hl [0, 1] rfl, hP, hD, hS, ⟨by decide, by decide⟩, by have z0 : (0 : Int32).toInt = 0 := (by decide); omega, g5_bar0 (by decide)⟩ ?_
  rintro ⟨k_i, k_g⟩ ls H locs ⟨hl, hP, hD, hS, i_1, i_2, i_3⟩ ih_2_4
  have hl : lv_has ls 2 [(1, .int k_i), (0, .ref a_49)] := hl
  have i_1 : 0 ≤ k_i.toInt ∧ k_i.toInt ≤ 7 := i_1
  have i_2 : k_i.toInt ≤ p_n.toInt := i_2
  have i_3 : ∀ j : Nat, k_g j = vp_updL f_b p_h.toInt.toNat (rayN (f_b p_h.toInt.toNat) (gW 3 p_c.toInt) k_i.toInt.toNat) j := i_3
  have hP : va_P G.1 vwCl [(a_49, .inr (7, [.ref a_1, .ref a_42, .ref a_50, .ref a_51, .int 0, .ref a_52, .ref a_53, .ref a_54, .ref a_55, .ref a_56])), (a_50, .inl (G.2 1, 24, .inr (.inl k_g))), (a_42, .inr (5, [.ref a_1, .ref a_43, .ref a_46, .int p_n, .int (-1), .int e_l, .int 1000000, .int 0, .int e_met, .int e_c, .int 3, .int p_h, .int 0])), (a_46, .inl (G.2 0, 200, .inl f_p))] H := hP
  have hD : va_D A [(a_49, .inr (7, [.ref a_1, .ref a_42, .ref a_50, .ref a_51, .int 0, .ref a_52, .ref a_53, .ref a_54, .ref a_55, .ref a_56])), (a_50, .inl (G.2 1, 24, .inr (.inl k_g))), (a_42, .inr (5, [.ref a_1, .ref a_43, .ref a_46, .int p_n, .int (-1), .int e_l, .int 1000000, .int 0, .int e_met, .int e_c, .int 3, .int p_h, .int 0])), (a_46, .inl (G.2 0, 200, .inl f_p))] := hD
  refine lv_iload_n hx hb dX7_barPoints_2 rfl (lv_at hl 0 rfl) ?_
  refine lv_aload_n hx hb dX7_barPoints_3 rfl (lv_at hl 1 rfl) ?_
  refine va_get (D := G.1) (ci := 7) (v := .ref a_42) (C := RX7) (T := TX7) (N := 10) hx hb hts inG_X7 hown hK hP 0 rfl rfl 1 (by decide) (hts _ fl_X7_38) (fun _ h9 => h9) rfl dX7_barPoints_4 ?_
  refine va_get (D := G.1) (ci := 5) (v := .int p_n) (C := RX5) (T := TX5) (N := 13) hx hb hts inG_X5 hown hK hP 2 rfl rfl 3 (by decide) (hts _ fl_X7_92) (fun _ h9 => h9) rfl dX7_barPoints_7 ?_
  refine lv_icmp_ge (tgt := 53) hx hb dX7_barPoints_10 (by decide) (fun c_5 => ?_) (fun c_5 => ?_)
  ·
    have i_5 : k_i.toInt ≥ p_n.toInt := by have z := g5_ge (a := k_i.toInt) (b := p_n.toInt) (by rfl) (by rfl) c_5; omega
    exact W.vret hx hb hr (fun t ht hW => ⟨⟨[(a_49, .inr (7, [.ref a_1, .ref a_42, .ref a_50, .ref a_51, .int 0, .ref a_52, .ref a_53, .ref a_54, .ref a_55, .ref a_56])), (a_50, .inl (G.2 1, 24, .inr (.inl k_g)))], rfl, ⟨k_g, fun j => by rw [i_3 j, show k_i.toInt = p_n.toInt by omega], rfl⟩, by rw [ht]; exact hP.sub [0, 1] rfl, hD.sub [0, 1] (by decide) rfl⟩, hS.F ht⟩) hS.2.2 dX7_barPoints_53
  ·
    have i_5 : k_i.toInt < p_n.toInt := by have z := g5_geN (a := k_i.toInt) (b := p_n.toInt) (by rfl) (by rfl) c_5; omega
    refine lv_aload_n hx hb dX7_barPoints_13 rfl (lv_at hl 1 rfl) ?_
    refine va_get (D := G.1) (ci := 7) (v := .ref a_50) (C := RX7) (T := TX7) (N := 10) hx hb hts inG_X7 hown hK hP 0 rfl rfl 2 (by decide) (hts _ fl_X7_9) (fun _ h9 => h9) rfl dX7_barPoints_14 ?_
    refine lv_aload_n hx hb dX7_barPoints_17 rfl (lv_at hl 1 rfl) ?_
    refine va_get (D := G.1) (ci := 7) (v := .ref a_42) (C := RX7) (T := TX7) (N := 10) hx hb hts inG_X7 hown hK hP 0 rfl rfl 1 (by decide) (hts _ fl_X7_38) (fun _ h9 => h9) rfl dX7_barPoints_18 ?_
    refine va_get (D := G.1) (ci := 5) (v := .ref a_46) (C := RX5) (T := TX5) (N := 13) hx hb hts inG_X5 hown hK hP 2 rfl rfl 2 (by decide) (hts _ fl_X7_95) (fun _ h9 => h9) rfl dX7_barPoints_21 ?_
    refine lv_iload_n hx hb dX7_barPoints_24 rfl (lv_at hl 0 rfl) ?_
    have tz_6 := g5_clamp k_i
    have t_6 := e_p (k_i.toNatClampNeg) (by omega)
    refine va_iald hx hb hK hP 3 0 rfl rfl (i := k_i) (vp_in_iff.mpr ⟨by omega, by omega⟩) dX7_barPoints_25 ?_
    refine lv_bipush (v := 64) hx hb dX7_barPoints_26 (by decide) ?_
    refine lv_idiv hx hb dX7_barPoints_28 (by decide) ?_
    have t_7 : ((f_p k_i.toNatClampNeg) / 64).toInt = (f_p k_i.toNatClampNeg).toInt / 64 := g5_idiv (a := (f_p k_i.toNatClampNeg).toInt) (b := 64) rfl (by decide) (by omega) (by decide)
    refine lv_dup2_11 hx hb dX7_barPoints_29 rfl rfl ?_
    refine va_lald hx hb hK hP 1 1 rfl rfl (i := ((f_p k_i.toNatClampNeg) / 64)) (vp_in_iff.mpr ⟨by omega, by omega⟩) dX7_barPoints_30 ?_
    refine lv_lconst (v := 1) hx hb dX7_barPoints_31 (by decide) ?_
    refine lv_aload_n hx hb dX7_barPoints_32 rfl (lv_at hl 1 rfl) ?_
    refine va_get (D := G.1) (ci := 7) (v := .ref a_42) (C := RX7) (T := TX7) (N := 10) hx hb hts inG_X7 hown hK hP 0 rfl rfl 1 (by decide) (hts _ fl_X7_38) (fun _ h9 => h9) rfl dX7_barPoints_33 ?_
    refine va_get (D := G.1) (ci := 5) (v := .ref a_46) (C := RX5) (T := TX5) (N := 13) hx hb hts inG_X5 hown hK hP 2 rfl rfl 2 (by decide) (hts _ fl_X7_95) (fun _ h9 => h9) rfl dX7_barPoints_36 ?_
    refine lv_iload_n hx hb dX7_barPoints_39 rfl (lv_at hl 0 rfl) ?_
    have tz_8 := g5_clamp k_i
    have t_8 := e_p (k_i.toNatClampNeg) (by omega)
    refine va_iald hx hb hK hP 3 0 rfl rfl (i := k_i) (vp_in_iff.mpr ⟨by omega, by omega⟩) dX7_barPoints_40 ?_
    refine lv_bipush (v := 64) hx hb dX7_barPoints_41 (by decide) ?_
    refine lv_irem hx hb dX7_barPoints_43 (by decide) ?_
    have t_9 : ((f_p k_i.toNatClampNeg) - (f_p k_i.toNatClampNeg) / 64 * 64).toInt = (f_p k_i.toNatClampNeg).toInt % 64 := g5_irem (a := (f_p k_i.toNatClampNeg).toInt) (b := 64) rfl (by decide) (by omega) (by decide)
    refine lv_lshl (v := ((1 : Int64) <<< (((f_p k_i.toNatClampNeg) - (f_p k_i.toNatClampNeg) / 64 * 64).toInt64 &&& 63))) hx hb dX7_barPoints_44 rfl ?_
    refine lv_lor hx hb dX7_barPoints_45 ?_
    refine va_last hx hb hK hP hD hS 1 1 rfl rfl (i := ((f_p k_i.toNatClampNeg) / 64)) (x := ((k_g ((f_p k_i.toNatClampNeg) / 64).toNatClampNeg) ||| ((1 : Int64) <<< (((f_p k_i.toNatClampNeg) - (f_p k_i.toNatClampNeg) / 64 * 64).toInt64 &&& 63)))) (vp_in_iff.mpr ⟨by omega, by omega⟩) dX7_barPoints_46 (fun H locs hP hD hS => ?_)
    have hP : va_P G.1 vwCl [(a_49, .inr (7, [.ref a_1, .ref a_42, .ref a_50, .ref a_51, .int 0, .ref a_52, .ref a_53, .ref a_54, .ref a_55, .ref a_56])), (a_50, .inl (G.2 1, 24, .inr (.inl (vp_updL k_g ((f_p k_i.toNatClampNeg) / 64).toNatClampNeg ((k_g ((f_p k_i.toNatClampNeg) / 64).toNatClampNeg) ||| ((1 : Int64) <<< (((f_p k_i.toNatClampNeg) - (f_p k_i.toNatClampNeg) / 64 * 64).toInt64 &&& 63))))))), (a_42, .inr (5, [.ref a_1, .ref a_43, .ref a_46, .int p_n, .int (-1), .int e_l, .int 1000000, .int 0, .int e_met, .int e_c, .int 3, .int p_h, .int 0])), (a_46, .inl (G.2 0, 200, .inl f_p))] H := hP
    have hD : va_D A [(a_49, .inr (7, [.ref a_1, .ref a_42, .ref a_50, .ref a_51, .int 0, .ref a_52, .ref a_53, .ref a_54, .ref a_55, .ref a_56])), (a_50, .inl (G.2 1, 24, .inr (.inl (vp_updL k_g ((f_p k_i.toNatClampNeg) / 64).toNatClampNeg ((k_g ((f_p k_i.toNatClampNeg) / 64).toNatClampNeg) ||| ((1 : Int64) <<< (((f_p k_i.toNatClampNeg) - (f_p k_i.toNatClampNeg) / 64 * 64).toInt64 &&& 63))))))), (a_42, .inr (5, [.ref a_1, .ref a_43, .ref a_46, .int p_n, .int (-1), .int e_l, .int 1000000, .int 0, .int e_met, .int e_c, .int 3, .int p_h, .int 0])), (a_46, .inl (G.2 0, 200, .inl f_p))] := hD
    refine lv_iinc (v := (k_i + 1)) (lv' := [(1, .int (k_i + 1)), (0, .ref a_49)]) hx hb dX7_barPoints_47 hl (k := 0) rfl rfl (by decide) rfl (fun ls hl => ?_)
    have t_10 : (k_i + 1).toInt = k_i.toInt + 1 := g5_iadd (a := k_i.toInt) (b := 1) rfl (by decide) (by omega) (by omega)
    refine lv_goto (tgt := 2) hx hb dX7_barPoints_50 (by decide) ?_
    exact ih_2_4 ((k_i + 1), (vp_updL k_g ((f_p k_i.toNatClampNeg) / 64).toNatClampNeg ((k_g ((f_p k_i.toNatClampNeg) / 64).toNatClampNeg) ||| ((1 : Int64) <<< (((f_p k_i.toNatClampNeg) - (f_p k_i.toNatClampNeg) / 64 * 64).toInt64 &&& 63))))) ls H locs (show Int.toNat (7 - (k_i + 1).toInt) < Int.toNat (7 - k_i.toInt) by omega) ⟨lv_sub hl [0, 1] rfl, hP, hD, hS, ⟨by omega, by omega⟩, by omega, g5_bar i_3 (by omega) (by omega) (by omega) (by unfold gW; simp only [if_true, reduceIte, Nat.reduceEqDiff]; omega) (by omega)⟩
theorem dX5_cellsFrom_0 : decode cX5_cellsFrom 0 = .ok (.lconst 0, 1) := by decide +kernel
theorem dX5_cellsFrom_1 : decode cX5_cellsFrom 1 = .ok (.lstore_n 3, 1) := by decide +kernel
theorem dX5_cellsFrom_2 : decode cX5_cellsFrom 2 = .ok (.iconst 0, 1) := by decide +kernel
theorem dX5_cellsFrom_3 : decode cX5_cellsFrom 3 = .ok (.istore 5, 2) := by decide +kernel
theorem dX5_cellsFrom_5 : decode cX5_cellsFrom 5 = .ok (.iload 5, 2) := by decide +kernel
theorem dX5_cellsFrom_7 : decode cX5_cellsFrom 7 = .ok (.iconst 4, 1) := by decide +kernel
theorem dX5_cellsFrom_8 : decode cX5_cellsFrom 8 = .ok (.if_icmp .ge 51, 3) := by decide +kernel
theorem dX5_cellsFrom_11 : decode cX5_cellsFrom 11 = .ok (.aload_n 0, 1) := by decide +kernel
theorem dX5_cellsFrom_12 : decode cX5_cellsFrom 12 = .ok (.iload_n 1, 1) := by decide +kernel
theorem dX5_cellsFrom_13 : decode cX5_cellsFrom 13 = .ok (.iload 5, 2) := by decide +kernel
theorem dX5_cellsFrom_15 : decode cX5_cellsFrom 15 = .ok (.iload_n 2, 1) := by decide +kernel
theorem dX5_cellsFrom_16 : decode cX5_cellsFrom 16 = .ok (.iconst 0, 1) := by decide +kernel
theorem dX5_cellsFrom_17 : decode cX5_cellsFrom 17 = .ok (.invokevirtual 91, 3) := by decide +kernel
theorem dX5_cellsFrom_20 : decode cX5_cellsFrom 20 = .ok (.iconst 0, 1) := by decide +kernel
theorem dX5_cellsFrom_21 : decode cX5_cellsFrom 21 = .ok (.istore 6, 2) := by decide +kernel
theorem dX5_cellsFrom_23 : decode cX5_cellsFrom 23 = .ok (.iload 6, 2) := by decide +kernel
theorem dX5_cellsFrom_25 : decode cX5_cellsFrom 25 = .ok (.aload_n 0, 1) := by decide +kernel
theorem dX5_cellsFrom_26 : decode cX5_cellsFrom 26 = .ok (.getfield 36, 3) := by decide +kernel
theorem dX5_cellsFrom_29 : decode cX5_cellsFrom 29 = .ok (.if_icmp .ge 24, 3) := by decide +kernel
theorem dX5_cellsFrom_32 : decode cX5_cellsFrom 32 = .ok (.lload_n 3, 1) := by decide +kernel
theorem dX5_cellsFrom_33 : decode cX5_cellsFrom 33 = .ok (.lconst 1, 1) := by decide +kernel
theorem dX5_cellsFrom_34 : decode cX5_cellsFrom 34 = .ok (.aload_n 0, 1) := by decide +kernel
theorem dX5_cellsFrom_35 : decode cX5_cellsFrom 35 = .ok (.getfield 18, 3) := by decide +kernel
theorem dX5_cellsFrom_38 : decode cX5_cellsFrom 38 = .ok (.iload 6, 2) := by decide +kernel
theorem dX5_cellsFrom_40 : decode cX5_cellsFrom 40 = .ok (.iaload, 1) := by decide +kernel
theorem dX5_cellsFrom_41 : decode cX5_cellsFrom 41 = .ok (.bipush 64, 2) := by decide +kernel
theorem dX5_cellsFrom_43 : decode cX5_cellsFrom 43 = .ok (.irem, 1) := by decide +kernel
theorem dX5_cellsFrom_44 : decode cX5_cellsFrom 44 = .ok (.lshl, 1) := by decide +kernel
theorem dX5_cellsFrom_45 : decode cX5_cellsFrom 45 = .ok (.lor, 1) := by decide +kernel
theorem dX5_cellsFrom_46 : decode cX5_cellsFrom 46 = .ok (.lstore_n 3, 1) := by decide +kernel
theorem dX5_cellsFrom_47 : decode cX5_cellsFrom 47 = .ok (.iinc 6 1, 3) := by decide +kernel
theorem dX5_cellsFrom_50 : decode cX5_cellsFrom 50 = .ok (.goto (-27), 3) := by decide +kernel
theorem dX5_cellsFrom_53 : decode cX5_cellsFrom 53 = .ok (.iinc 5 1, 3) := by decide +kernel
theorem dX5_cellsFrom_56 : decode cX5_cellsFrom 56 = .ok (.goto (-51), 3) := by decide +kernel
theorem dX5_cellsFrom_59 : decode cX5_cellsFrom 59 = .ok (.lload_n 3, 1) := by decide +kernel
theorem dX5_cellsFrom_60 : decode cX5_cellsFrom 60 = .ok (.lreturn, 1) := by decide +kernel
theorem ml_X5_91 : Cond.methodLink RX5 91 yX5_run ∈ tblG := tg 882 (by decide +kernel) (by decide +kernel)
theorem im_X5_run : Cond.instanceMethod yX5_run ∈ tblG := tg 812 (by decide +kernel) (by decide +kernel)
theorem se_X5_run : Cond.selects RX5 yX5_run yX5_run ∈ tblG := tg 813 (by decide +kernel) (by decide +kernel)
theorem cd_X5_run : Cond.code yX5_run cX5_run 9 none ∈ tblG := tg 814 (by decide +kernel) (by decide +kernel)
theorem gW_X5_run : GoodIn tblG (wsG yX5_run cX5_run 9 none) := tgi cd_X5_run
theorem gV_X5_91 : GoodIn tblG (wsV RX5 91 RX5 yX5_run (wsG yX5_run cX5_run 9 none)) := tgV ml_X5_91 im_X5_run se_X5_run ini_X5 gW_X5_run
theorem hv_X5_run : yX5_run.cls = RX5 ∧ yX5_run.cls ≠ "java/lang/invoke/MethodHandle" ∧ yX5_run.cls ≠ "java/lang/invoke/VarHandle" ∧ (parseMethodDescriptor yX5_run.desc).map (fun d => d.parameters.length) = some 4 := by decide +kernel
set_option maxHeartbeats 4000000 in
set_option maxRecDepth 100000 in
theorem k_cellsFrom (l : Launch) (G : g5_G) (a_42 a_1 a_46 a_13 a_9 a_43 a_2 a_3 a_5 a_7 a_11 a_10 : Nat) (sz : Nat) (p_c : Int32) (p_h : Int32) (e_length : Int32) (e_seen : Int32) (e_lastHour : Int32) (e_bright : Int32) (e_went : Int32) (e_met : Int32) (e_cell : Int32) (e_way : Int32) (e_hour : Int32) (f_p : Nat → Int32) (h_p_c : 0 ≤ p_c.toInt ∧ p_c.toInt ≤ 63) (h_p_h : 0 ≤ p_h.toInt ∧ p_h.toInt ≤ 23) : Met l yX5_cellsFrom (wsG yX5_cellsFrom cX5_cellsFrom 7 (some .long)) ({ frames := 3, cells := 0, slots := 0, locals := 70 }) (va_Pc [.ref a_42, .int p_c, .int p_h] (g5_P G [(a_42, .inr (5, [.ref a_1, .ref a_43, .ref a_46, .int e_length, .int e_seen, .int e_lastHour, .int e_bright, .int e_went, .int e_met, .int e_cell, .int e_way, .int e_hour, .int 0])), (a_1, .inr (1, [.long 0, .int 1000, .int (-1), .int (-1), .int 0, .ref a_2, .ref a_3, .ref a_5, .ref a_7, .ref a_9, .ref a_11, .long 0, .ref a_13])), (a_46, .inl (G.2 0, 200, .inl f_p)), (a_13, .inl (G.2 1, 24, .inr (.inl (fun _ => 0)))), (a_9, .inr (6, [.int 8, .int 5, .ref a_10, .int 0]))] sz)) (va_Ql (fun (r : Int64) (u : va_W) => (∃ (o_b : Int64), (o_b = litB p_c.toInt) ∧ (r = o_b) ∧ (u = []))) (g5_B G (va_A [(a_42, .inr (5, [.ref a_1, .ref a_43, .ref a_46, .int e_length, .int e_seen, .int e_lastHour, .int e_bright, .int e_went, .int e_met, .int e_cell, .int e_way, .int e_hour, .int 0])), (a_1, .inr (1, [.long 0, .int 1000, .int (-1), .int (-1), .int 0, .ref a_2, .ref a_3, .ref a_5, .ref a_7, .ref a_9, .ref a_11, .long 0, .ref a_13])), (a_46, .inl (G.2 0, 200, .inl f_p)), (a_13, .inl (G.2 1, 24, .inr (.inl (fun _ => 0)))), (a_9, .inr (6, [.int 8, .int 5, .ref a_10, .int 0]))] sz)) (va_A [(a_42, .inr (5, [.ref a_1, .ref a_43, .ref a_46, .int e_length, .int e_seen, .int e_lastHour, .int e_bright, .int e_went, .int e_met, .int e_cell, .int e_way, .int e_hour, .int 0])), (a_1, .inr (1, [.long 0, .int 1000, .int (-1), .int (-1), .int 0, .ref a_2, .ref a_3, .ref a_5, .ref a_7, .ref a_9, .ref a_11, .long 0, .ref a_13])), (a_46, .inl (G.2 0, 200, .inl f_p)), (a_13, .inl (G.2 1, 24, .inr (.inl (fun _ => 0)))), (a_9, .inr (6, [.int 8, .int 5, .ref a_10, .int 0]))] sz)) 0 0 (va_A [(a_42, .inr (5, [.ref a_1, .ref a_43, .ref a_46, .int e_length, .int e_seen, .int e_lastHour, .int e_bright, .int e_went, .int e_met, .int e_cell, .int e_way, .int e_hour, .int 0])), (a_1, .inr (1, [.long 0, .int 1000, .int (-1), .int (-1), .int 0, .ref a_2, .ref a_3, .ref a_5, .ref a_7, .ref a_9, .ref a_11, .long 0, .ref a_13])), (a_46, .inl (G.2 0, 200, .inl f_p)), (a_13, .inl (G.2 1, 24, .inr (.inl (fun _ => 0)))), (a_9, .inr (6, [.int 8, .int 5, .ref a_10, .int 0]))] sz) := by
  refine Met.ofW (cc := cX5_cellsFrom) (maxL := 7) (ret := (some .long)) (by decide) rfl ?_
  intro p e s m args below meth c s₁ B hml hv
  obtain ⟨rfl, hsz, hP, hK, hD0, hN, hT⟩ := hv
  have hx := B.exec
  have hb := B.bytes
  have hr := B.returns
  have hts : ∀ w ∈ tblG, w.before _ s = true := fun w h => atoms_spec (ws := (wsG yX5_cellsFrom cX5_cellsFrom 7 (some .long))) B.pre w (List.mem_cons_of_mem _ h)
  have hown : s.vm.findClass RX5 = some m.cls := findClass_of_methodNamed B.named
  have hlocks := B.notSynchronized
  subst hsz
  have hD := hD0.self (sz := s.heap.size)
  generalize hAe : va_A [(a_42, .inr (5, [.ref a_1, .ref a_43, .ref a_46, .int e_length, .int e_seen, .int e_lastHour, .int e_bright, .int e_went, .int e_met, .int e_cell, .int e_way, .int e_hour, .int 0])), (a_1, .inr (1, [.long 0, .int 1000, .int (-1), .int (-1), .int 0, .ref a_2, .ref a_3, .ref a_5, .ref a_7, .ref a_9, .ref a_11, .long 0, .ref a_13])), (a_46, .inl (G.2 0, 200, .inl f_p)), (a_13, .inl (G.2 1, 24, .inr (.inl (fun _ => 0)))), (a_9, .inr (6, [.int 8, .int 5, .ref a_10, .int 0]))] s.heap.size = A at hD hT ⊢
  have hA : ∀ q : Nat, s.heap.size ≤ q → A q := fun q h => by rw [← hAe]; exact Or.inr h
  have hS : va_S A s.heap s.heap [] := va_S.rf
  have hP : va_P G.1 vwCl [(a_42, .inr (5, [.ref a_1, .ref a_43, .ref a_46, .int e_length, .int e_seen, .int e_lastHour, .int e_bright, .int e_went, .int e_met, .int e_cell, .int e_way, .int e_hour, .int 0])), (a_1, .inr (1, [.long 0, .int 1000, .int (-1), .int (-1), .int 0, .ref a_2, .ref a_3, .ref a_5, .ref a_7, .ref a_9, .ref a_11, .long 0, .ref a_13])), (a_46, .inl (G.2 0, 200, .inl f_p)), (a_13, .inl (G.2 1, 24, .inr (.inl (fun _ => 0)))), (a_9, .inr (6, [.int 8, .int 5, .ref a_10, .int 0]))] s.heap := hP
  have hl := lv_entry ([.ref a_42, .int p_c, .int p_h]) (n := 7) (Nat.le_of_ble_eq_true rfl)
  rw [lg_entry_eq]
  generalize (lg_sl ([.ref a_42, .int p_c, .int p_h]) ++ List.replicate (7 - (lg_sl ([.ref a_42, .int p_c, .int p_h])).length) Slot.unset).toArray = ls at hl ⊢
  have hl : lv_has ls 7 [(0, .ref a_42), (1, .int p_c), (2, .int p_h)] := hl
  refine lv_lconst (v := 0) hx hb dX5_cellsFrom_0 (by decide) ?_
  refine lv_lstore_n (lv' := [(3, .long 0), (0, .ref a_42), (1, .int p_c), (2, .int p_h)]) hx hb dX5_cellsFrom_1 rfl hl (by decide) rfl (fun ls hl => ?_)
  refine lv_iconst (v := 0) hx hb dX5_cellsFrom_2 (by decide) ?_
  refine lv_istore (lv' := [(5, .int 0), (3, .long 0), (0, .ref a_42), (1, .int p_c), (2, .int p_h)]) hx hb dX5_cellsFrom_3 hl (by decide) rfl (fun ls hl => ?_)
  refine lv_iload hx hb dX5_cellsFrom_5 (lv_at hl 0 rfl) ?_
  refine lv_iconst (v := 4) hx hb dX5_cellsFrom_7 (by decide) ?_
  refine lv_icmp_ge (tgt := 59) hx hb dX5_cellsFrom_8 (by decide) (fun c_1 => ?_) (fun c_1 => ?_)
  ·
    exact absurd c_1 (by decide)
  ·
    refine lv_aload_n hx hb dX5_cellsFrom_11 rfl (lv_at hl 2 rfl) ?_
    refine lv_iload_n hx hb dX5_cellsFrom_12 rfl (lv_at hl 3 rfl) ?_
    refine lv_iload hx hb dX5_cellsFrom_13 (lv_at hl 0 rfl) ?_
    refine lv_iload_n hx hb dX5_cellsFrom_15 rfl (lv_at hl 4 rfl) ?_
    refine lv_iconst (v := 0) hx hb dX5_cellsFrom_16 (by decide) ?_
    have hPc := hP.sub (ws' := [(a_42, .inr (5, [.ref a_1, .ref a_43, .ref a_46, .int e_length, .int e_seen, .int e_lastHour, .int e_bright, .int e_went, .int e_met, .int e_cell, .int e_way, .int e_hour, .int 0])), (a_1, .inr (1, [.long 0, .int 1000, .int (-1), .int (-1), .int 0, .ref a_2, .ref a_3, .ref a_5, .ref a_7, .ref a_9, .ref a_11, .long 0, .ref a_13])), (a_46, .inl (G.2 0, 200, .inl f_p)), (a_13, .inl (G.2 1, 24, .inr (.inl (fun _ => 0)))), (a_9, .inr (6, [.int 8, .int 5, .ref a_10, .int 0]))]) [0, 1, 2, 3, 4] rfl
    have hDc := hD.sub (ws' := [(a_42, .inr (5, [.ref a_1, .ref a_43, .ref a_46, .int e_length, .int e_seen, .int e_lastHour, .int e_bright, .int e_went, .int e_met, .int e_cell, .int e_way, .int e_hour, .int 0])), (a_1, .inr (1, [.long 0, .int 1000, .int (-1), .int (-1), .int 0, .ref a_2, .ref a_3, .ref a_5, .ref a_7, .ref a_9, .ref a_11, .long 0, .ref a_13])), (a_46, .inl (G.2 0, 200, .inl f_p)), (a_13, .inl (G.2 1, 24, .inr (.inl (fun _ => 0)))), (a_9, .inr (6, [.int 8, .int 5, .ref a_10, .int 0]))]) [0, 1, 2, 3, 4] (by decide) rfl
    have hFc := va_free (wc := [(a_42, .inr (5, [.ref a_1, .ref a_43, .ref a_46, .int e_length, .int e_seen, .int e_lastHour, .int e_bright, .int e_went, .int e_met, .int e_cell, .int e_way, .int e_hour, .int 0])), (a_1, .inr (1, [.long 0, .int 1000, .int (-1), .int (-1), .int 0, .ref a_2, .ref a_3, .ref a_5, .ref a_7, .ref a_9, .ref a_11, .long 0, .ref a_13])), (a_46, .inl (G.2 0, 200, .inl f_p)), (a_13, .inl (G.2 1, 24, .inr (.inl (fun _ => 0)))), (a_9, .inr (6, [.int 8, .int 5, .ref a_10, .int 0]))]) hD hS hA [0, 1, 2, 3, 4] rfl
    refine va_callv (va_runV (As := [.int p_c, .int 0, .int p_h, .int 0]) (rest := []) ⟨hx, hb, hml, hown, hts⟩ (k_run0 l G a_42 a_1 a_46 a_13 a_9 a_43 a_2 a_3 a_5 a_7 a_11 a_10 s.heap.size p_c p_h e_length e_seen e_lastHour e_bright e_went e_met e_cell e_way e_hour f_p ⟨by omega, by omega⟩ ⟨by omega, by omega⟩) (cwV 4 hts gV_X5_91 rfl rfl rfl hv_X5_run ⟨Nat.le_of_ble_eq_true rfl, Nat.le_of_ble_eq_true rfl⟩) (g5_preV hPc hK hDc hN hT hS hFc (ci := 5) (q0 := 0) rfl rfl) rfl rfl hl.1 rfl (lv_room (Nat.le_of_ble_eq_true rfl)) dX5_cellsFrom_17 ⟨Nat.le_of_ble_eq_true rfl, Nat.le_of_ble_eq_true rfl⟩) hS (fun q _ h => hFc q h) hFc (fun u t H1 locs ht hvm hw hB hz1 hk1 hS => ?_)
    obtain ⟨hP1, hD1⟩ := hB
    rw [ht] at hP1
    obtain ⟨z8, z9, z10, z11, i_2, i_3, i_4, i_5, i_6, i_7, rfl⟩ := hw
    have i_2 : z8.toInt = p_c.toInt / 8 := i_2
    have i_3 : 0 ≤ z8.toInt ∧ z8.toInt ≤ 7 := i_3
    have i_4 : (z8.toInt = 0 → z9.toInt = -1) ∧ (0 < z8.toInt → z9.toInt = p_h.toInt) := i_4
    have i_5 : -1 ≤ z9.toInt ∧ z9.toInt ≤ 23 := i_5
    have i_6 : 0 ≤ z10.toInt ∧ z10.toInt ≤ 63 := i_6
    have i_7 : ∀ j : Nat, (j : Int) < z8.toInt → (z11 j).toInt = p_h.toInt * 64 + (p_c.toInt - 8 * ((j : Int) + 1)) := i_7
    obtain ⟨hP, hD⟩ := va_join (wr := []) (w1 := [(a_42, .inr (5, [.ref a_1, .ref a_43, .ref a_46, .int z8, .int (-1), .int z9, .int 1000000, .int 0, .int e_met, .int z10, .int 0, .int p_h, .int 0])), (a_1, .inr (1, [.long 0, .int 1000, .int (-1), .int (-1), .int 0, .ref a_2, .ref a_3, .ref a_5, .ref a_7, .ref a_9, .ref a_11, .long 0, .ref a_13])), (a_46, .inl (G.2 0, 200, .inl z11)), (a_13, .inl (G.2 1, 24, .inr (.inl (fun _ => 0)))), (a_9, .inr (6, [.int 8, .int 5, .ref a_10, .int 0]))]) hP hD [0, 1, 2, 3, 4] [] rfl rfl (by decide) (by decide) hk1 hFc hP1 hD1
    generalize H1 = H at hP hS ⊢
    have hP : va_P G.1 vwCl [(a_42, .inr (5, [.ref a_1, .ref a_43, .ref a_46, .int z8, .int (-1), .int z9, .int 1000000, .int 0, .int e_met, .int z10, .int 0, .int p_h, .int 0])), (a_1, .inr (1, [.long 0, .int 1000, .int (-1), .int (-1), .int 0, .ref a_2, .ref a_3, .ref a_5, .ref a_7, .ref a_9, .ref a_11, .long 0, .ref a_13])), (a_46, .inl (G.2 0, 200, .inl z11)), (a_13, .inl (G.2 1, 24, .inr (.inl (fun _ => 0)))), (a_9, .inr (6, [.int 8, .int 5, .ref a_10, .int 0]))] H := hP
    have hD : va_D A [(a_42, .inr (5, [.ref a_1, .ref a_43, .ref a_46, .int z8, .int (-1), .int z9, .int 1000000, .int 0, .int e_met, .int z10, .int 0, .int p_h, .int 0])), (a_1, .inr (1, [.long 0, .int 1000, .int (-1), .int (-1), .int 0, .ref a_2, .ref a_3, .ref a_5, .ref a_7, .ref a_9, .ref a_11, .long 0, .ref a_13])), (a_46, .inl (G.2 0, 200, .inl z11)), (a_13, .inl (G.2 1, 24, .inr (.inl (fun _ => 0)))), (a_9, .inr (6, [.int 8, .int 5, .ref a_10, .int 0]))] := hD
    refine lv_iconst (v := 0) hx hb dX5_cellsFrom_20 (by decide) ?_
    refine lv_istore (lv' := [(6, .int 0), (5, .int 0), (3, .long 0), (0, .ref a_42), (1, .int p_c), (2, .int p_h)]) hx hb dX5_cellsFrom_21 hl (by decide) rfl (fun ls hl => ?_)
    refine g5_loop (α := (Int32) × (Int64)) (fun (q : (Int32) × (Int64)) (ls : Array Slot) (H : Heap) (locs : List Loc) => match q with | (k_i, k_b) => lv_has ls 7 [(3, .long k_b), (6, .int k_i), (5, .int 0), (0, .ref a_42), (1, .int p_c), (2, .int p_h)] ∧ va_P G.1 vwCl [(a_42, .inr (5, [.ref a_1, .ref a_43, .ref a_46, .int z8, .int (-1), .int z9, .int 1000000, .int 0, .int e_met, .int z10, .int 0, .int p_h, .int 0])), (a_1, .inr (1, [.long 0, .int 1000, .int (-1), .int (-1), .int 0, .ref a_2, .ref a_3, .ref a_5, .ref a_7, .ref a_9, .ref a_11, .long 0, .ref a_13])), (a_46, .inl (G.2 0, 200, .inl z11)), (a_13, .inl (G.2 1, 24, .inr (.inl (fun _ => 0)))), (a_9, .inr (6, [.int 8, .int 5, .ref a_10, .int 0]))] H ∧ va_D A [(a_42, .inr (5, [.ref a_1, .ref a_43, .ref a_46, .int z8, .int (-1), .int z9, .int 1000000, .int 0, .int e_met, .int z10, .int 0, .int p_h, .int 0])), (a_1, .inr (1, [.long 0, .int 1000, .int (-1), .int (-1), .int 0, .ref a_2, .ref a_3, .ref a_5, .ref a_7, .ref a_9, .ref a_11, .long 0, .ref a_13])), (a_46, .inl (G.2 0, 200, .inl z11)), (a_13, .inl (G.2 1, 24, .inr (.inl (fun _ => 0)))), (a_9, .inr (6, [.int 8, .int 5, .ref a_10, .int 0]))] ∧ va_S A s.heap H locs ∧ (0 ≤ k_i.toInt ∧ k_i.toInt ≤ 7) ∧ (k_i.toInt ≤ z8.toInt) ∧ (k_b = rayN (0) (gW 0 p_c.toInt) k_i.toInt.toNat)) (fun (q : (Int32) × (Int64)) => match q with | (k_i, k_b) => Int.toNat (7 - k_i.toInt)) (0, 0) ⟨lv_sub hl [2, 0, 1, 3, 4, 5] rfl, hP, hD, hS, ⟨by decide, by decide⟩, by have z0 : (0 : Int32).toInt = 0 := (by decide); omega, g5_ray0 rfl⟩ ?_
    rintro ⟨k_i, k_b⟩ ls H locs ⟨hl, hP, hD, hS, i_12, i_13, i_14⟩ ih_23_15
    have hl : lv_has ls 7 [(3, .long k_b), (6, .int k_i), (5, .int 0), (0, .ref a_42), (1, .int p_c), (2, .int p_h)] := hl
    have i_12 : 0 ≤ k_i.toInt ∧ k_i.toInt ≤ 7 := i_12
    have i_13 : k_i.toInt ≤ z8.toInt := i_13
    have i_14 : k_b = rayN (0) (gW 0 p_c.toInt) k_i.toInt.toNat := i_14
    have hP : va_P G.1 vwCl [(a_42, .inr (5, [.ref a_1, .ref a_43, .ref a_46, .int z8, .int (-1), .int z9, .int 1000000, .int 0, .int e_met, .int z10, .int 0, .int p_h, .int 0])), (a_1, .inr (1, [.long 0, .int 1000, .int (-1), .int (-1), .int 0, .ref a_2, .ref a_3, .ref a_5, .ref a_7, .ref a_9, .ref a_11, .long 0, .ref a_13])), (a_46, .inl (G.2 0, 200, .inl z11)), (a_13, .inl (G.2 1, 24, .inr (.inl (fun _ => 0)))), (a_9, .inr (6, [.int 8, .int 5, .ref a_10, .int 0]))] H := hP
    have hD : va_D A [(a_42, .inr (5, [.ref a_1, .ref a_43, .ref a_46, .int z8, .int (-1), .int z9, .int 1000000, .int 0, .int e_met, .int z10, .int 0, .int p_h, .int 0])), (a_1, .inr (1, [.long 0, .int 1000, .int (-1), .int (-1), .int 0, .ref a_2, .ref a_3, .ref a_5, .ref a_7, .ref a_9, .ref a_11, .long 0, .ref a_13])), (a_46, .inl (G.2 0, 200, .inl z11)), (a_13, .inl (G.2 1, 24, .inr (.inl (fun _ => 0)))), (a_9, .inr (6, [.int 8, .int 5, .ref a_10, .int 0]))] := hD
    refine lv_iload hx hb dX5_cellsFrom_23 (lv_at hl 1 rfl) ?_
    refine lv_aload_n hx hb dX5_cellsFrom_25 rfl (lv_at hl 3 rfl) ?_
    refine va_get (D := G.1) (ci := 5) (v := .int z8) (C := RX5) (T := TX5) (N := 13) hx hb hts inG_X5 hown hK hP 0 rfl rfl 3 (by decide) (hts _ fl_X5_36) (fun _ h9 => h9) rfl dX5_cellsFrom_26 ?_
    refine lv_icmp_ge (tgt := 53) hx hb dX5_cellsFrom_29 (by decide) (fun c_16 => ?_) (fun c_16 => ?_)
    ·
      have i_16 : k_i.toInt ≥ z8.toInt := by have z := g5_ge (a := k_i.toInt) (b := z8.toInt) (by rfl) (by rfl) c_16; omega
      have hray1 : k_b = rayN (0) (gW 0 p_c.toInt) (nW 0 p_c.toInt).toNat := by rw [i_14]; congr 1; unfold nW; simp only [if_true, reduceIte, Nat.reduceEqDiff]; omega
      refine lv_iinc (v := 1) (lv' := [(5, .int 1), (3, .long k_b), (6, .int k_i), (0, .ref a_42), (1, .int p_c), (2, .int p_h)]) hx hb dX5_cellsFrom_53 hl (k := 2) rfl (by decide) (by decide) rfl (fun ls hl => ?_)
      refine lv_goto (tgt := 5) hx hb dX5_cellsFrom_56 (by decide) ?_
      refine lv_iload hx hb dX5_cellsFrom_5 (lv_at hl 0 rfl) ?_
      refine lv_iconst (v := 4) hx hb dX5_cellsFrom_7 (by decide) ?_
      refine lv_icmp_ge (tgt := 59) hx hb dX5_cellsFrom_8 (by decide) (fun c_17 => ?_) (fun c_17 => ?_)
      ·
        exact absurd c_17 (by decide)
      ·
        refine lv_aload_n hx hb dX5_cellsFrom_11 rfl (lv_at hl 3 rfl) ?_
        refine lv_iload_n hx hb dX5_cellsFrom_12 rfl (lv_at hl 4 rfl) ?_
        refine lv_iload hx hb dX5_cellsFrom_13 (lv_at hl 0 rfl) ?_
        refine lv_iload_n hx hb dX5_cellsFrom_15 rfl (lv_at hl 5 rfl) ?_
        refine lv_iconst (v := 0) hx hb dX5_cellsFrom_16 (by decide) ?_
        have hPc := hP.sub (ws' := [(a_42, .inr (5, [.ref a_1, .ref a_43, .ref a_46, .int z8, .int (-1), .int z9, .int 1000000, .int 0, .int e_met, .int z10, .int 0, .int p_h, .int 0])), (a_1, .inr (1, [.long 0, .int 1000, .int (-1), .int (-1), .int 0, .ref a_2, .ref a_3, .ref a_5, .ref a_7, .ref a_9, .ref a_11, .long 0, .ref a_13])), (a_46, .inl (G.2 0, 200, .inl z11)), (a_13, .inl (G.2 1, 24, .inr (.inl (fun _ => 0)))), (a_9, .inr (6, [.int 8, .int 5, .ref a_10, .int 0]))]) [0, 1, 2, 3, 4] rfl
        have hDc := hD.sub (ws' := [(a_42, .inr (5, [.ref a_1, .ref a_43, .ref a_46, .int z8, .int (-1), .int z9, .int 1000000, .int 0, .int e_met, .int z10, .int 0, .int p_h, .int 0])), (a_1, .inr (1, [.long 0, .int 1000, .int (-1), .int (-1), .int 0, .ref a_2, .ref a_3, .ref a_5, .ref a_7, .ref a_9, .ref a_11, .long 0, .ref a_13])), (a_46, .inl (G.2 0, 200, .inl z11)), (a_13, .inl (G.2 1, 24, .inr (.inl (fun _ => 0)))), (a_9, .inr (6, [.int 8, .int 5, .ref a_10, .int 0]))]) [0, 1, 2, 3, 4] (by decide) rfl
        have hFc := va_free (wc := [(a_42, .inr (5, [.ref a_1, .ref a_43, .ref a_46, .int z8, .int (-1), .int z9, .int 1000000, .int 0, .int e_met, .int z10, .int 0, .int p_h, .int 0])), (a_1, .inr (1, [.long 0, .int 1000, .int (-1), .int (-1), .int 0, .ref a_2, .ref a_3, .ref a_5, .ref a_7, .ref a_9, .ref a_11, .long 0, .ref a_13])), (a_46, .inl (G.2 0, 200, .inl z11)), (a_13, .inl (G.2 1, 24, .inr (.inl (fun _ => 0)))), (a_9, .inr (6, [.int 8, .int 5, .ref a_10, .int 0]))]) hD hS hA [0, 1, 2, 3, 4] rfl
        refine va_callv (va_runV (As := [.int p_c, .int 1, .int p_h, .int 0]) (rest := []) ⟨hx, hb, hml, hown, hts⟩ (k_run1 l G a_42 a_1 a_46 a_13 a_9 a_43 a_2 a_3 a_5 a_7 a_11 a_10 H.size p_c p_h z8 (-1) z9 1000000 0 e_met z10 0 p_h z11 ⟨by omega, by omega⟩ ⟨by omega, by omega⟩) (cwV 4 hts gV_X5_91 rfl rfl rfl hv_X5_run ⟨Nat.le_of_ble_eq_true rfl, Nat.le_of_ble_eq_true rfl⟩) (g5_preV hPc hK hDc hN hT hS hFc (ci := 5) (q0 := 0) rfl rfl) rfl rfl hl.1 rfl (lv_room (Nat.le_of_ble_eq_true rfl)) dX5_cellsFrom_17 ⟨Nat.le_of_ble_eq_true rfl, Nat.le_of_ble_eq_true rfl⟩) hS (fun q _ h => hFc q h) hFc (fun u t H1 locs ht hvm hw hB hz1 hk1 hS => ?_)
        obtain ⟨hP1, hD1⟩ := hB
        rw [ht] at hP1
        obtain ⟨z24, z25, z26, z27, i_18, i_19, i_20, i_21, i_22, i_23, rfl⟩ := hw
        have i_18 : z24.toInt = 7 - p_c.toInt % 8 := i_18
        have i_19 : 0 ≤ z24.toInt ∧ z24.toInt ≤ 7 := i_19
        have i_20 : (z24.toInt = 0 → z25.toInt = -1) ∧ (0 < z24.toInt → z25.toInt = p_h.toInt) := i_20
        have i_21 : -1 ≤ z25.toInt ∧ z25.toInt ≤ 23 := i_21
        have i_22 : 0 ≤ z26.toInt ∧ z26.toInt ≤ 63 := i_22
        have i_23 : ∀ j : Nat, (j : Int) < z24.toInt → (z27 j).toInt = p_h.toInt * 64 + (p_c.toInt + ((j : Int) + 1)) := i_23
        obtain ⟨hP, hD⟩ := va_join (wr := []) (w1 := [(a_42, .inr (5, [.ref a_1, .ref a_43, .ref a_46, .int z24, .int (-1), .int z25, .int 1000000, .int 0, .int e_met, .int z26, .int 1, .int p_h, .int 0])), (a_1, .inr (1, [.long 0, .int 1000, .int (-1), .int (-1), .int 0, .ref a_2, .ref a_3, .ref a_5, .ref a_7, .ref a_9, .ref a_11, .long 0, .ref a_13])), (a_46, .inl (G.2 0, 200, .inl z27)), (a_13, .inl (G.2 1, 24, .inr (.inl (fun _ => 0)))), (a_9, .inr (6, [.int 8, .int 5, .ref a_10, .int 0]))]) hP hD [0, 1, 2, 3, 4] [] rfl rfl (by decide) (by decide) hk1 hFc hP1 hD1
        generalize H1 = H at hP hS ⊢
        have hP : va_P G.1 vwCl [(a_42, .inr (5, [.ref a_1, .ref a_43, .ref a_46, .int z24, .int (-1), .int z25, .int 1000000, .int 0, .int e_met, .int z26, .int 1, .int p_h, .int 0])), (a_1, .inr (1, [.long 0, .int 1000, .int (-1), .int (-1), .int 0, .ref a_2, .ref a_3, .ref a_5, .ref a_7, .ref a_9, .ref a_11, .long 0, .ref a_13])), (a_46, .inl (G.2 0, 200, .inl z27)), (a_13, .inl (G.2 1, 24, .inr (.inl (fun _ => 0)))), (a_9, .inr (6, [.int 8, .int 5, .ref a_10, .int 0]))] H := hP
        have hD : va_D A [(a_42, .inr (5, [.ref a_1, .ref a_43, .ref a_46, .int z24, .int (-1), .int z25, .int 1000000, .int 0, .int e_met, .int z26, .int 1, .int p_h, .int 0])), (a_1, .inr (1, [.long 0, .int 1000, .int (-1), .int (-1), .int 0, .ref a_2, .ref a_3, .ref a_5, .ref a_7, .ref a_9, .ref a_11, .long 0, .ref a_13])), (a_46, .inl (G.2 0, 200, .inl z27)), (a_13, .inl (G.2 1, 24, .inr (.inl (fun _ => 0)))), (a_9, .inr (6, [.int 8, .int 5, .ref a_10, .int 0]))] := hD
        refine lv_iconst (v := 0) hx hb dX5_cellsFrom_20 (by decide) ?_
        refine lv_istore (lv' := [(6, .int 0), (5, .int 1), (3, .long k_b), (0, .ref a_42), (1, .int p_c), (2, .int p_h)]) hx hb dX5_cellsFrom_21 hl (by decide) rfl (fun ls hl => ?_)
        refine g5_loop (α := (Int32) × (Int64)) (fun (q : (Int32) × (Int64)) (ls : Array Slot) (H : Heap) (locs : List Loc) => match q with | (k_i, k_b) => lv_has ls 7 [(3, .long k_b), (6, .int k_i), (5, .int 1), (0, .ref a_42), (1, .int p_c), (2, .int p_h)] ∧ va_P G.1 vwCl [(a_42, .inr (5, [.ref a_1, .ref a_43, .ref a_46, .int z24, .int (-1), .int z25, .int 1000000, .int 0, .int e_met, .int z26, .int 1, .int p_h, .int 0])), (a_1, .inr (1, [.long 0, .int 1000, .int (-1), .int (-1), .int 0, .ref a_2, .ref a_3, .ref a_5, .ref a_7, .ref a_9, .ref a_11, .long 0, .ref a_13])), (a_46, .inl (G.2 0, 200, .inl z27)), (a_13, .inl (G.2 1, 24, .inr (.inl (fun _ => 0)))), (a_9, .inr (6, [.int 8, .int 5, .ref a_10, .int 0]))] H ∧ va_D A [(a_42, .inr (5, [.ref a_1, .ref a_43, .ref a_46, .int z24, .int (-1), .int z25, .int 1000000, .int 0, .int e_met, .int z26, .int 1, .int p_h, .int 0])), (a_1, .inr (1, [.long 0, .int 1000, .int (-1), .int (-1), .int 0, .ref a_2, .ref a_3, .ref a_5, .ref a_7, .ref a_9, .ref a_11, .long 0, .ref a_13])), (a_46, .inl (G.2 0, 200, .inl z27)), (a_13, .inl (G.2 1, 24, .inr (.inl (fun _ => 0)))), (a_9, .inr (6, [.int 8, .int 5, .ref a_10, .int 0]))] ∧ va_S A s.heap H locs ∧ (0 ≤ k_i.toInt ∧ k_i.toInt ≤ 7) ∧ (k_i.toInt ≤ z24.toInt) ∧ (k_b = rayN (rayN (0) (gW 0 p_c.toInt) (nW 0 p_c.toInt).toNat) (gW 1 p_c.toInt) k_i.toInt.toNat)) (fun (q : (Int32) × (Int64)) => match q with | (k_i, k_b) => Int.toNat (7 - k_i.toInt)) (0, k_b) ⟨lv_sub hl [2, 0, 1, 3, 4, 5] rfl, hP, hD, hS, ⟨by decide, by decide⟩, by have z0 : (0 : Int32).toInt = 0 := (by decide); omega, g5_ray0 hray1⟩ ?_
        rintro ⟨k_i, k_b⟩ ls H locs ⟨hl, hP, hD, hS, i_28, i_29, i_30⟩ ih_23_31
        have hl : lv_has ls 7 [(3, .long k_b), (6, .int k_i), (5, .int 1), (0, .ref a_42), (1, .int p_c), (2, .int p_h)] := hl
        have i_28 : 0 ≤ k_i.toInt ∧ k_i.toInt ≤ 7 := i_28
        have i_29 : k_i.toInt ≤ z24.toInt := i_29
        have i_30 : k_b = rayN (rayN (0) (gW 0 p_c.toInt) (nW 0 p_c.toInt).toNat) (gW 1 p_c.toInt) k_i.toInt.toNat := i_30
        have hP : va_P G.1 vwCl [(a_42, .inr (5, [.ref a_1, .ref a_43, .ref a_46, .int z24, .int (-1), .int z25, .int 1000000, .int 0, .int e_met, .int z26, .int 1, .int p_h, .int 0])), (a_1, .inr (1, [.long 0, .int 1000, .int (-1), .int (-1), .int 0, .ref a_2, .ref a_3, .ref a_5, .ref a_7, .ref a_9, .ref a_11, .long 0, .ref a_13])), (a_46, .inl (G.2 0, 200, .inl z27)), (a_13, .inl (G.2 1, 24, .inr (.inl (fun _ => 0)))), (a_9, .inr (6, [.int 8, .int 5, .ref a_10, .int 0]))] H := hP
        have hD : va_D A [(a_42, .inr (5, [.ref a_1, .ref a_43, .ref a_46, .int z24, .int (-1), .int z25, .int 1000000, .int 0, .int e_met, .int z26, .int 1, .int p_h, .int 0])), (a_1, .inr (1, [.long 0, .int 1000, .int (-1), .int (-1), .int 0, .ref a_2, .ref a_3, .ref a_5, .ref a_7, .ref a_9, .ref a_11, .long 0, .ref a_13])), (a_46, .inl (G.2 0, 200, .inl z27)), (a_13, .inl (G.2 1, 24, .inr (.inl (fun _ => 0)))), (a_9, .inr (6, [.int 8, .int 5, .ref a_10, .int 0]))] := hD
        refine lv_iload hx hb dX5_cellsFrom_23 (lv_at hl 1 rfl) ?_
        refine lv_aload_n hx hb dX5_cellsFrom_25 rfl (lv_at hl 3 rfl) ?_
        refine va_get (D := G.1) (ci := 5) (v := .int z24) (C := RX5) (T := TX5) (N := 13) hx hb hts inG_X5 hown hK hP 0 rfl rfl 3 (by decide) (hts _ fl_X5_36) (fun _ h9 => h9) rfl dX5_cellsFrom_26 ?_
        refine lv_icmp_ge (tgt := 53) hx hb dX5_cellsFrom_29 (by decide) (fun c_32 => ?_) (fun c_32 => ?_)
        ·
          have i_32 : k_i.toInt ≥ z24.toInt := by have z := g5_ge (a := k_i.toInt) (b := z24.toInt) (by rfl) (by rfl) c_32; omega
          have hray2 : k_b = rayN (rayN (0) (gW 0 p_c.toInt) (nW 0 p_c.toInt).toNat) (gW 1 p_c.toInt) (nW 1 p_c.toInt).toNat := by rw [i_30]; congr 1; unfold nW; simp only [if_true, reduceIte, Nat.reduceEqDiff]; omega
          refine lv_iinc (v := 2) (lv' := [(5, .int 2), (3, .long k_b), (6, .int k_i), (0, .ref a_42), (1, .int p_c), (2, .int p_h)]) hx hb dX5_cellsFrom_53 hl (k := 2) rfl (by decide) (by decide) rfl (fun ls hl => ?_)
          refine lv_goto (tgt := 5) hx hb dX5_cellsFrom_56 (by decide) ?_
          refine lv_iload hx hb dX5_cellsFrom_5 (lv_at hl 0 rfl) ?_
          refine lv_iconst (v := 4) hx hb dX5_cellsFrom_7 (by decide) ?_
          refine lv_icmp_ge (tgt := 59) hx hb dX5_cellsFrom_8 (by decide) (fun c_33 => ?_) (fun c_33 => ?_)
          ·
            exact absurd c_33 (by decide)
          ·
            refine lv_aload_n hx hb dX5_cellsFrom_11 rfl (lv_at hl 3 rfl) ?_
            refine lv_iload_n hx hb dX5_cellsFrom_12 rfl (lv_at hl 4 rfl) ?_
            refine lv_iload hx hb dX5_cellsFrom_13 (lv_at hl 0 rfl) ?_
            refine lv_iload_n hx hb dX5_cellsFrom_15 rfl (lv_at hl 5 rfl) ?_
            refine lv_iconst (v := 0) hx hb dX5_cellsFrom_16 (by decide) ?_
            have hPc := hP.sub (ws' := [(a_42, .inr (5, [.ref a_1, .ref a_43, .ref a_46, .int z24, .int (-1), .int z25, .int 1000000, .int 0, .int e_met, .int z26, .int 1, .int p_h, .int 0])), (a_1, .inr (1, [.long 0, .int 1000, .int (-1), .int (-1), .int 0, .ref a_2, .ref a_3, .ref a_5, .ref a_7, .ref a_9, .ref a_11, .long 0, .ref a_13])), (a_46, .inl (G.2 0, 200, .inl z27)), (a_13, .inl (G.2 1, 24, .inr (.inl (fun _ => 0)))), (a_9, .inr (6, [.int 8, .int 5, .ref a_10, .int 0]))]) [0, 1, 2, 3, 4] rfl
            have hDc := hD.sub (ws' := [(a_42, .inr (5, [.ref a_1, .ref a_43, .ref a_46, .int z24, .int (-1), .int z25, .int 1000000, .int 0, .int e_met, .int z26, .int 1, .int p_h, .int 0])), (a_1, .inr (1, [.long 0, .int 1000, .int (-1), .int (-1), .int 0, .ref a_2, .ref a_3, .ref a_5, .ref a_7, .ref a_9, .ref a_11, .long 0, .ref a_13])), (a_46, .inl (G.2 0, 200, .inl z27)), (a_13, .inl (G.2 1, 24, .inr (.inl (fun _ => 0)))), (a_9, .inr (6, [.int 8, .int 5, .ref a_10, .int 0]))]) [0, 1, 2, 3, 4] (by decide) rfl
            have hFc := va_free (wc := [(a_42, .inr (5, [.ref a_1, .ref a_43, .ref a_46, .int z24, .int (-1), .int z25, .int 1000000, .int 0, .int e_met, .int z26, .int 1, .int p_h, .int 0])), (a_1, .inr (1, [.long 0, .int 1000, .int (-1), .int (-1), .int 0, .ref a_2, .ref a_3, .ref a_5, .ref a_7, .ref a_9, .ref a_11, .long 0, .ref a_13])), (a_46, .inl (G.2 0, 200, .inl z27)), (a_13, .inl (G.2 1, 24, .inr (.inl (fun _ => 0)))), (a_9, .inr (6, [.int 8, .int 5, .ref a_10, .int 0]))]) hD hS hA [0, 1, 2, 3, 4] rfl
            refine va_callv (va_runV (As := [.int p_c, .int 2, .int p_h, .int 0]) (rest := []) ⟨hx, hb, hml, hown, hts⟩ (k_run2 l G a_42 a_1 a_46 a_13 a_9 a_43 a_2 a_3 a_5 a_7 a_11 a_10 H.size p_c p_h z24 (-1) z25 1000000 0 e_met z26 1 p_h z27 ⟨by omega, by omega⟩ ⟨by omega, by omega⟩) (cwV 4 hts gV_X5_91 rfl rfl rfl hv_X5_run ⟨Nat.le_of_ble_eq_true rfl, Nat.le_of_ble_eq_true rfl⟩) (g5_preV hPc hK hDc hN hT hS hFc (ci := 5) (q0 := 0) rfl rfl) rfl rfl hl.1 rfl (lv_room (Nat.le_of_ble_eq_true rfl)) dX5_cellsFrom_17 ⟨Nat.le_of_ble_eq_true rfl, Nat.le_of_ble_eq_true rfl⟩) hS (fun q _ h => hFc q h) hFc (fun u t H1 locs ht hvm hw hB hz1 hk1 hS => ?_)
            obtain ⟨hP1, hD1⟩ := hB
            rw [ht] at hP1
            obtain ⟨z40, z41, z42, z43, i_34, i_35, i_36, i_37, i_38, i_39, rfl⟩ := hw
            have i_34 : z40.toInt = 7 - p_c.toInt / 8 := i_34
            have i_35 : 0 ≤ z40.toInt ∧ z40.toInt ≤ 7 := i_35
            have i_36 : (z40.toInt = 0 → z41.toInt = -1) ∧ (0 < z40.toInt → z41.toInt = p_h.toInt) := i_36
            have i_37 : -1 ≤ z41.toInt ∧ z41.toInt ≤ 23 := i_37
            have i_38 : 0 ≤ z42.toInt ∧ z42.toInt ≤ 63 := i_38
            have i_39 : ∀ j : Nat, (j : Int) < z40.toInt → (z43 j).toInt = p_h.toInt * 64 + (p_c.toInt + 8 * ((j : Int) + 1)) := i_39
            obtain ⟨hP, hD⟩ := va_join (wr := []) (w1 := [(a_42, .inr (5, [.ref a_1, .ref a_43, .ref a_46, .int z40, .int (-1), .int z41, .int 1000000, .int 0, .int e_met, .int z42, .int 2, .int p_h, .int 0])), (a_1, .inr (1, [.long 0, .int 1000, .int (-1), .int (-1), .int 0, .ref a_2, .ref a_3, .ref a_5, .ref a_7, .ref a_9, .ref a_11, .long 0, .ref a_13])), (a_46, .inl (G.2 0, 200, .inl z43)), (a_13, .inl (G.2 1, 24, .inr (.inl (fun _ => 0)))), (a_9, .inr (6, [.int 8, .int 5, .ref a_10, .int 0]))]) hP hD [0, 1, 2, 3, 4] [] rfl rfl (by decide) (by decide) hk1 hFc hP1 hD1
            generalize H1 = H at hP hS ⊢
            have hP : va_P G.1 vwCl [(a_42, .inr (5, [.ref a_1, .ref a_43, .ref a_46, .int z40, .int (-1), .int z41, .int 1000000, .int 0, .int e_met, .int z42, .int 2, .int p_h, .int 0])), (a_1, .inr (1, [.long 0, .int 1000, .int (-1), .int (-1), .int 0, .ref a_2, .ref a_3, .ref a_5, .ref a_7, .ref a_9, .ref a_11, .long 0, .ref a_13])), (a_46, .inl (G.2 0, 200, .inl z43)), (a_13, .inl (G.2 1, 24, .inr (.inl (fun _ => 0)))), (a_9, .inr (6, [.int 8, .int 5, .ref a_10, .int 0]))] H := hP
            have hD : va_D A [(a_42, .inr (5, [.ref a_1, .ref a_43, .ref a_46, .int z40, .int (-1), .int z41, .int 1000000, .int 0, .int e_met, .int z42, .int 2, .int p_h, .int 0])), (a_1, .inr (1, [.long 0, .int 1000, .int (-1), .int (-1), .int 0, .ref a_2, .ref a_3, .ref a_5, .ref a_7, .ref a_9, .ref a_11, .long 0, .ref a_13])), (a_46, .inl (G.2 0, 200, .inl z43)), (a_13, .inl (G.2 1, 24, .inr (.inl (fun _ => 0)))), (a_9, .inr (6, [.int 8, .int 5, .ref a_10, .int 0]))] := hD
            refine lv_iconst (v := 0) hx hb dX5_cellsFrom_20 (by decide) ?_
            refine lv_istore (lv' := [(6, .int 0), (5, .int 2), (3, .long k_b), (0, .ref a_42), (1, .int p_c), (2, .int p_h)]) hx hb dX5_cellsFrom_21 hl (by decide) rfl (fun ls hl => ?_)
            refine g5_loop (α := (Int32) × (Int64)) (fun (q : (Int32) × (Int64)) (ls : Array Slot) (H : Heap) (locs : List Loc) => match q with | (k_i, k_b) => lv_has ls 7 [(3, .long k_b), (6, .int k_i), (5, .int 2), (0, .ref a_42), (1, .int p_c), (2, .int p_h)] ∧ va_P G.1 vwCl [(a_42, .inr (5, [.ref a_1, .ref a_43, .ref a_46, .int z40, .int (-1), .int z41, .int 1000000, .int 0, .int e_met, .int z42, .int 2, .int p_h, .int 0])), (a_1, .inr (1, [.long 0, .int 1000, .int (-1), .int (-1), .int 0, .ref a_2, .ref a_3, .ref a_5, .ref a_7, .ref a_9, .ref a_11, .long 0, .ref a_13])), (a_46, .inl (G.2 0, 200, .inl z43)), (a_13, .inl (G.2 1, 24, .inr (.inl (fun _ => 0)))), (a_9, .inr (6, [.int 8, .int 5, .ref a_10, .int 0]))] H ∧ va_D A [(a_42, .inr (5, [.ref a_1, .ref a_43, .ref a_46, .int z40, .int (-1), .int z41, .int 1000000, .int 0, .int e_met, .int z42, .int 2, .int p_h, .int 0])), (a_1, .inr (1, [.long 0, .int 1000, .int (-1), .int (-1), .int 0, .ref a_2, .ref a_3, .ref a_5, .ref a_7, .ref a_9, .ref a_11, .long 0, .ref a_13])), (a_46, .inl (G.2 0, 200, .inl z43)), (a_13, .inl (G.2 1, 24, .inr (.inl (fun _ => 0)))), (a_9, .inr (6, [.int 8, .int 5, .ref a_10, .int 0]))] ∧ va_S A s.heap H locs ∧ (0 ≤ k_i.toInt ∧ k_i.toInt ≤ 7) ∧ (k_i.toInt ≤ z40.toInt) ∧ (k_b = rayN (rayN (rayN (0) (gW 0 p_c.toInt) (nW 0 p_c.toInt).toNat) (gW 1 p_c.toInt) (nW 1 p_c.toInt).toNat) (gW 2 p_c.toInt) k_i.toInt.toNat)) (fun (q : (Int32) × (Int64)) => match q with | (k_i, k_b) => Int.toNat (7 - k_i.toInt)) (0, k_b) ⟨lv_sub hl [2, 0, 1, 3, 4, 5] rfl, hP, hD, hS, ⟨by decide, by decide⟩, by have z0 : (0 : Int32).toInt = 0 := (by decide); omega, g5_ray0 hray2⟩ ?_
            rintro ⟨k_i, k_b⟩ ls H locs ⟨hl, hP, hD, hS, i_44, i_45, i_46⟩ ih_23_47
            have hl : lv_has ls 7 [(3, .long k_b), (6, .int k_i), (5, .int 2), (0, .ref a_42), (1, .int p_c), (2, .int p_h)] := hl
            have i_44 : 0 ≤ k_i.toInt ∧ k_i.toInt ≤ 7 := i_44
            have i_45 : k_i.toInt ≤ z40.toInt := i_45
            have i_46 : k_b = rayN (rayN (rayN (0) (gW 0 p_c.toInt) (nW 0 p_c.toInt).toNat) (gW 1 p_c.toInt) (nW 1 p_c.toInt).toNat) (gW 2 p_c.toInt) k_i.toInt.toNat := i_46
            have hP : va_P G.1 vwCl [(a_42, .inr (5, [.ref a_1, .ref a_43, .ref a_46, .int z40, .int (-1), .int z41, .int 1000000, .int 0, .int e_met, .int z42, .int 2, .int p_h, .int 0])), (a_1, .inr (1, [.long 0, .int 1000, .int (-1), .int (-1), .int 0, .ref a_2, .ref a_3, .ref a_5, .ref a_7, .ref a_9, .ref a_11, .long 0, .ref a_13])), (a_46, .inl (G.2 0, 200, .inl z43)), (a_13, .inl (G.2 1, 24, .inr (.inl (fun _ => 0)))), (a_9, .inr (6, [.int 8, .int 5, .ref a_10, .int 0]))] H := hP
            have hD : va_D A [(a_42, .inr (5, [.ref a_1, .ref a_43, .ref a_46, .int z40, .int (-1), .int z41, .int 1000000, .int 0, .int e_met, .int z42, .int 2, .int p_h, .int 0])), (a_1, .inr (1, [.long 0, .int 1000, .int (-1), .int (-1), .int 0, .ref a_2, .ref a_3, .ref a_5, .ref a_7, .ref a_9, .ref a_11, .long 0, .ref a_13])), (a_46, .inl (G.2 0, 200, .inl z43)), (a_13, .inl (G.2 1, 24, .inr (.inl (fun _ => 0)))), (a_9, .inr (6, [.int 8, .int 5, .ref a_10, .int 0]))] := hD
            refine lv_iload hx hb dX5_cellsFrom_23 (lv_at hl 1 rfl) ?_
            refine lv_aload_n hx hb dX5_cellsFrom_25 rfl (lv_at hl 3 rfl) ?_
            refine va_get (D := G.1) (ci := 5) (v := .int z40) (C := RX5) (T := TX5) (N := 13) hx hb hts inG_X5 hown hK hP 0 rfl rfl 3 (by decide) (hts _ fl_X5_36) (fun _ h9 => h9) rfl dX5_cellsFrom_26 ?_
            refine lv_icmp_ge (tgt := 53) hx hb dX5_cellsFrom_29 (by decide) (fun c_48 => ?_) (fun c_48 => ?_)
            ·
              have i_48 : k_i.toInt ≥ z40.toInt := by have z := g5_ge (a := k_i.toInt) (b := z40.toInt) (by rfl) (by rfl) c_48; omega
              have hray3 : k_b = rayN (rayN (rayN (0) (gW 0 p_c.toInt) (nW 0 p_c.toInt).toNat) (gW 1 p_c.toInt) (nW 1 p_c.toInt).toNat) (gW 2 p_c.toInt) (nW 2 p_c.toInt).toNat := by rw [i_46]; congr 1; unfold nW; simp only [if_true, reduceIte, Nat.reduceEqDiff]; omega
              refine lv_iinc (v := 3) (lv' := [(5, .int 3), (3, .long k_b), (6, .int k_i), (0, .ref a_42), (1, .int p_c), (2, .int p_h)]) hx hb dX5_cellsFrom_53 hl (k := 2) rfl (by decide) (by decide) rfl (fun ls hl => ?_)
              refine lv_goto (tgt := 5) hx hb dX5_cellsFrom_56 (by decide) ?_
              refine lv_iload hx hb dX5_cellsFrom_5 (lv_at hl 0 rfl) ?_
              refine lv_iconst (v := 4) hx hb dX5_cellsFrom_7 (by decide) ?_
              refine lv_icmp_ge (tgt := 59) hx hb dX5_cellsFrom_8 (by decide) (fun c_49 => ?_) (fun c_49 => ?_)
              ·
                exact absurd c_49 (by decide)
              ·
                refine lv_aload_n hx hb dX5_cellsFrom_11 rfl (lv_at hl 3 rfl) ?_
                refine lv_iload_n hx hb dX5_cellsFrom_12 rfl (lv_at hl 4 rfl) ?_
                refine lv_iload hx hb dX5_cellsFrom_13 (lv_at hl 0 rfl) ?_
                refine lv_iload_n hx hb dX5_cellsFrom_15 rfl (lv_at hl 5 rfl) ?_
                refine lv_iconst (v := 0) hx hb dX5_cellsFrom_16 (by decide) ?_
                have hPc := hP.sub (ws' := [(a_42, .inr (5, [.ref a_1, .ref a_43, .ref a_46, .int z40, .int (-1), .int z41, .int 1000000, .int 0, .int e_met, .int z42, .int 2, .int p_h, .int 0])), (a_1, .inr (1, [.long 0, .int 1000, .int (-1), .int (-1), .int 0, .ref a_2, .ref a_3, .ref a_5, .ref a_7, .ref a_9, .ref a_11, .long 0, .ref a_13])), (a_46, .inl (G.2 0, 200, .inl z43)), (a_13, .inl (G.2 1, 24, .inr (.inl (fun _ => 0)))), (a_9, .inr (6, [.int 8, .int 5, .ref a_10, .int 0]))]) [0, 1, 2, 3, 4] rfl
                have hDc := hD.sub (ws' := [(a_42, .inr (5, [.ref a_1, .ref a_43, .ref a_46, .int z40, .int (-1), .int z41, .int 1000000, .int 0, .int e_met, .int z42, .int 2, .int p_h, .int 0])), (a_1, .inr (1, [.long 0, .int 1000, .int (-1), .int (-1), .int 0, .ref a_2, .ref a_3, .ref a_5, .ref a_7, .ref a_9, .ref a_11, .long 0, .ref a_13])), (a_46, .inl (G.2 0, 200, .inl z43)), (a_13, .inl (G.2 1, 24, .inr (.inl (fun _ => 0)))), (a_9, .inr (6, [.int 8, .int 5, .ref a_10, .int 0]))]) [0, 1, 2, 3, 4] (by decide) rfl
                have hFc := va_free (wc := [(a_42, .inr (5, [.ref a_1, .ref a_43, .ref a_46, .int z40, .int (-1), .int z41, .int 1000000, .int 0, .int e_met, .int z42, .int 2, .int p_h, .int 0])), (a_1, .inr (1, [.long 0, .int 1000, .int (-1), .int (-1), .int 0, .ref a_2, .ref a_3, .ref a_5, .ref a_7, .ref a_9, .ref a_11, .long 0, .ref a_13])), (a_46, .inl (G.2 0, 200, .inl z43)), (a_13, .inl (G.2 1, 24, .inr (.inl (fun _ => 0)))), (a_9, .inr (6, [.int 8, .int 5, .ref a_10, .int 0]))]) hD hS hA [0, 1, 2, 3, 4] rfl
                refine va_callv (va_runV (As := [.int p_c, .int 3, .int p_h, .int 0]) (rest := []) ⟨hx, hb, hml, hown, hts⟩ (k_run3 l G a_42 a_1 a_46 a_13 a_9 a_43 a_2 a_3 a_5 a_7 a_11 a_10 H.size p_c p_h z40 (-1) z41 1000000 0 e_met z42 2 p_h z43 ⟨by omega, by omega⟩ ⟨by omega, by omega⟩) (cwV 4 hts gV_X5_91 rfl rfl rfl hv_X5_run ⟨Nat.le_of_ble_eq_true rfl, Nat.le_of_ble_eq_true rfl⟩) (g5_preV hPc hK hDc hN hT hS hFc (ci := 5) (q0 := 0) rfl rfl) rfl rfl hl.1 rfl (lv_room (Nat.le_of_ble_eq_true rfl)) dX5_cellsFrom_17 ⟨Nat.le_of_ble_eq_true rfl, Nat.le_of_ble_eq_true rfl⟩) hS (fun q _ h => hFc q h) hFc (fun u t H1 locs ht hvm hw hB hz1 hk1 hS => ?_)
                obtain ⟨hP1, hD1⟩ := hB
                rw [ht] at hP1
                obtain ⟨z56, z57, z58, z59, i_50, i_51, i_52, i_53, i_54, i_55, rfl⟩ := hw
                have i_50 : z56.toInt = p_c.toInt % 8 := i_50
                have i_51 : 0 ≤ z56.toInt ∧ z56.toInt ≤ 7 := i_51
                have i_52 : (z56.toInt = 0 → z57.toInt = -1) ∧ (0 < z56.toInt → z57.toInt = p_h.toInt) := i_52
                have i_53 : -1 ≤ z57.toInt ∧ z57.toInt ≤ 23 := i_53
                have i_54 : 0 ≤ z58.toInt ∧ z58.toInt ≤ 63 := i_54
                have i_55 : ∀ j : Nat, (j : Int) < z56.toInt → (z59 j).toInt = p_h.toInt * 64 + (p_c.toInt - ((j : Int) + 1)) := i_55
                obtain ⟨hP, hD⟩ := va_join (wr := []) (w1 := [(a_42, .inr (5, [.ref a_1, .ref a_43, .ref a_46, .int z56, .int (-1), .int z57, .int 1000000, .int 0, .int e_met, .int z58, .int 3, .int p_h, .int 0])), (a_1, .inr (1, [.long 0, .int 1000, .int (-1), .int (-1), .int 0, .ref a_2, .ref a_3, .ref a_5, .ref a_7, .ref a_9, .ref a_11, .long 0, .ref a_13])), (a_46, .inl (G.2 0, 200, .inl z59)), (a_13, .inl (G.2 1, 24, .inr (.inl (fun _ => 0)))), (a_9, .inr (6, [.int 8, .int 5, .ref a_10, .int 0]))]) hP hD [0, 1, 2, 3, 4] [] rfl rfl (by decide) (by decide) hk1 hFc hP1 hD1
                generalize H1 = H at hP hS ⊢
                have hP : va_P G.1 vwCl [(a_42, .inr (5, [.ref a_1, .ref a_43, .ref a_46, .int z56, .int (-1), .int z57, .int 1000000, .int 0, .int e_met, .int z58, .int 3, .int p_h, .int 0])), (a_1, .inr (1, [.long 0, .int 1000, .int (-1), .int (-1), .int 0, .ref a_2, .ref a_3, .ref a_5, .ref a_7, .ref a_9, .ref a_11, .long 0, .ref a_13])), (a_46, .inl (G.2 0, 200, .inl z59)), (a_13, .inl (G.2 1, 24, .inr (.inl (fun _ => 0)))), (a_9, .inr (6, [.int 8, .int 5, .ref a_10, .int 0]))] H := hP
                have hD : va_D A [(a_42, .inr (5, [.ref a_1, .ref a_43, .ref a_46, .int z56, .int (-1), .int z57, .int 1000000, .int 0, .int e_met, .int z58, .int 3, .int p_h, .int 0])), (a_1, .inr (1, [.long 0, .int 1000, .int (-1), .int (-1), .int 0, .ref a_2, .ref a_3, .ref a_5, .ref a_7, .ref a_9, .ref a_11, .long 0, .ref a_13])), (a_46, .inl (G.2 0, 200, .inl z59)), (a_13, .inl (G.2 1, 24, .inr (.inl (fun _ => 0)))), (a_9, .inr (6, [.int 8, .int 5, .ref a_10, .int 0]))] := hD
                refine lv_iconst (v := 0) hx hb dX5_cellsFrom_20 (by decide) ?_
                refine lv_istore (lv' := [(6, .int 0), (5, .int 3), (3, .long k_b), (0, .ref a_42), (1, .int p_c), (2, .int p_h)]) hx hb dX5_cellsFrom_21 hl (by decide) rfl (fun ls hl => ?_)
                refine g5_loop (α := (Int32) × (Int64)) (fun (q : (Int32) × (Int64)) (ls : Array Slot) (H : Heap) (locs : List Loc) => match q with | (k_i, k_b) => lv_has ls 7 [(3, .long k_b), (6, .int k_i), (5, .int 3), (0, .ref a_42), (1, .int p_c), (2, .int p_h)] ∧ va_P G.1 vwCl [(a_42, .inr (5, [.ref a_1, .ref a_43, .ref a_46, .int z56, .int (-1), .int z57, .int 1000000, .int 0, .int e_met, .int z58, .int 3, .int p_h, .int 0])), (a_1, .inr (1, [.long 0, .int 1000, .int (-1), .int (-1), .int 0, .ref a_2, .ref a_3, .ref a_5, .ref a_7, .ref a_9, .ref a_11, .long 0, .ref a_13])), (a_46, .inl (G.2 0, 200, .inl z59)), (a_13, .inl (G.2 1, 24, .inr (.inl (fun _ => 0)))), (a_9, .inr (6, [.int 8, .int 5, .ref a_10, .int 0]))] H ∧ va_D A [(a_42, .inr (5, [.ref a_1, .ref a_43, .ref a_46, .int z56, .int (-1), .int z57, .int 1000000, .int 0, .int e_met, .int z58, .int 3, .int p_h, .int 0])), (a_1, .inr (1, [.long 0, .int 1000, .int (-1), .int (-1), .int 0, .ref a_2, .ref a_3, .ref a_5, .ref a_7, .ref a_9, .ref a_11, .long 0, .ref a_13])), (a_46, .inl (G.2 0, 200, .inl z59)), (a_13, .inl (G.2 1, 24, .inr (.inl (fun _ => 0)))), (a_9, .inr (6, [.int 8, .int 5, .ref a_10, .int 0]))] ∧ va_S A s.heap H locs ∧ (0 ≤ k_i.toInt ∧ k_i.toInt ≤ 7) ∧ (k_i.toInt ≤ z56.toInt) ∧ (k_b = rayN (rayN (rayN (rayN (0) (gW 0 p_c.toInt) (nW 0 p_c.toInt).toNat) (gW 1 p_c.toInt) (nW 1 p_c.toInt).toNat) (gW 2 p_c.toInt) (nW 2 p_c.toInt).toNat) (gW 3 p_c.toInt) k_i.toInt.toNat)) (fun (q : (Int32) × (Int64)) => match q with | (k_i, k_b) => Int.toNat (7 - k_i.toInt)) (0, k_b) ⟨lv_sub hl [2, 0, 1, 3, 4, 5] rfl, hP, hD, hS, ⟨by decide, by decide⟩, by have z0 : (0 : Int32).toInt = 0 := (by decide); omega, g5_ray0 hray3⟩ ?_
                rintro ⟨k_i, k_b⟩ ls H locs ⟨hl, hP, hD, hS, i_60, i_61, i_62⟩ ih_23_63
                have hl : lv_has ls 7 [(3, .long k_b), (6, .int k_i), (5, .int 3), (0, .ref a_42), (1, .int p_c), (2, .int p_h)] := hl
                have i_60 : 0 ≤ k_i.toInt ∧ k_i.toInt ≤ 7 := i_60
                have i_61 : k_i.toInt ≤ z56.toInt := i_61
                have i_62 : k_b = rayN (rayN (rayN (rayN (0) (gW 0 p_c.toInt) (nW 0 p_c.toInt).toNat) (gW 1 p_c.toInt) (nW 1 p_c.toInt).toNat) (gW 2 p_c.toInt) (nW 2 p_c.toInt).toNat) (gW 3 p_c.toInt) k_i.toInt.toNat := i_62
                have hP : va_P G.1 vwCl [(a_42, .inr (5, [.ref a_1, .ref a_43, .ref a_46, .int z56, .int (-1), .int z57, .int 1000000, .int 0, .int e_met, .int z58, .int 3, .int p_h, .int 0])), (a_1, .inr (1, [.long 0, .int 1000, .int (-1), .int (-1), .int 0, .ref a_2, .ref a_3, .ref a_5, .ref a_7, .ref a_9, .ref a_11, .long 0, .ref a_13])), (a_46, .inl (G.2 0, 200, .inl z59)), (a_13, .inl (G.2 1, 24, .inr (.inl (fun _ => 0)))), (a_9, .inr (6, [.int 8, .int 5, .ref a_10, .int 0]))] H := hP
                have hD : va_D A [(a_42, .inr (5, [.ref a_1, .ref a_43, .ref a_46, .int z56, .int (-1), .int z57, .int 1000000, .int 0, .int e_met, .int z58, .int 3, .int p_h, .int 0])), (a_1, .inr (1, [.long 0, .int 1000, .int (-1), .int (-1), .int 0, .ref a_2, .ref a_3, .ref a_5, .ref a_7, .ref a_9, .ref a_11, .long 0, .ref a_13])), (a_46, .inl (G.2 0, 200, .inl z59)), (a_13, .inl (G.2 1, 24, .inr (.inl (fun _ => 0)))), (a_9, .inr (6, [.int 8, .int 5, .ref a_10, .int 0]))] := hD
                refine lv_iload hx hb dX5_cellsFrom_23 (lv_at hl 1 rfl) ?_
                refine lv_aload_n hx hb dX5_cellsFrom_25 rfl (lv_at hl 3 rfl) ?_
                refine va_get (D := G.1) (ci := 5) (v := .int z56) (C := RX5) (T := TX5) (N := 13) hx hb hts inG_X5 hown hK hP 0 rfl rfl 3 (by decide) (hts _ fl_X5_36) (fun _ h9 => h9) rfl dX5_cellsFrom_26 ?_
                refine lv_icmp_ge (tgt := 53) hx hb dX5_cellsFrom_29 (by decide) (fun c_64 => ?_) (fun c_64 => ?_)
                ·
                  have i_64 : k_i.toInt ≥ z56.toInt := by have z := g5_ge (a := k_i.toInt) (b := z56.toInt) (by rfl) (by rfl) c_64; omega
                  have hray4 : k_b = rayN (rayN (rayN (rayN (0) (gW 0 p_c.toInt) (nW 0 p_c.toInt).toNat) (gW 1 p_c.toInt) (nW 1 p_c.toInt).toNat) (gW 2 p_c.toInt) (nW 2 p_c.toInt).toNat) (gW 3 p_c.toInt) (nW 3 p_c.toInt).toNat := by rw [i_62]; congr 1; unfold nW; simp only [if_true, reduceIte, Nat.reduceEqDiff]; omega
                  refine lv_iinc (v := 4) (lv' := [(5, .int 4), (3, .long k_b), (6, .int k_i), (0, .ref a_42), (1, .int p_c), (2, .int p_h)]) hx hb dX5_cellsFrom_53 hl (k := 2) rfl (by decide) (by decide) rfl (fun ls hl => ?_)
                  refine lv_goto (tgt := 5) hx hb dX5_cellsFrom_56 (by decide) ?_
                  refine lv_iload hx hb dX5_cellsFrom_5 (lv_at hl 0 rfl) ?_
                  refine lv_iconst (v := 4) hx hb dX5_cellsFrom_7 (by decide) ?_
                  refine lv_icmp_ge (tgt := 59) hx hb dX5_cellsFrom_8 (by decide) (fun c_65 => ?_) (fun c_65 => ?_)
                  ·
                    refine lv_lload_n hx hb dX5_cellsFrom_59 rfl (lv_at hl 1 rfl) ?_
                    exact W.lret (v := k_b) hx hb hr (fun t ht hW => ⟨⟨k_b, [], rfl, ⟨k_b, hray4, rfl, rfl⟩, by rw [ht]; exact hP.sub [] rfl, hD.sub [] (by decide) rfl⟩, hS.F ht⟩) hS.2.2 dX5_cellsFrom_60
                  ·
                    exact absurd c_65 (by decide)
                ·
                  have i_64 : k_i.toInt < z56.toInt := by have z := g5_geN (a := k_i.toInt) (b := z56.toInt) (by rfl) (by rfl) c_64; omega
                  refine lv_lload_n hx hb dX5_cellsFrom_32 rfl (lv_at hl 0 rfl) ?_
                  refine lv_lconst (v := 1) hx hb dX5_cellsFrom_33 (by decide) ?_
                  refine lv_aload_n hx hb dX5_cellsFrom_34 rfl (lv_at hl 3 rfl) ?_
                  refine va_get (D := G.1) (ci := 5) (v := .ref a_46) (C := RX5) (T := TX5) (N := 13) hx hb hts inG_X5 hown hK hP 0 rfl rfl 2 (by decide) (hts _ fl_X5_18) (fun _ h9 => h9) rfl dX5_cellsFrom_35 ?_
                  refine lv_iload hx hb dX5_cellsFrom_38 (lv_at hl 1 rfl) ?_
                  have tz_66 := g5_clamp k_i
                  have t_66 := i_55 (k_i.toNatClampNeg) (by omega)
                  refine va_iald hx hb hK hP 2 0 rfl rfl (i := k_i) (vp_in_iff.mpr ⟨by omega, by omega⟩) dX5_cellsFrom_40 ?_
                  refine lv_bipush (v := 64) hx hb dX5_cellsFrom_41 (by decide) ?_
                  refine lv_irem hx hb dX5_cellsFrom_43 (by decide) ?_
                  have t_67 : ((z59 k_i.toNatClampNeg) - (z59 k_i.toNatClampNeg) / 64 * 64).toInt = (z59 k_i.toNatClampNeg).toInt % 64 := g5_irem (a := (z59 k_i.toNatClampNeg).toInt) (b := 64) rfl (by decide) (by omega) (by decide)
                  refine lv_lshl (v := ((1 : Int64) <<< (((z59 k_i.toNatClampNeg) - (z59 k_i.toNatClampNeg) / 64 * 64).toInt64 &&& 63))) hx hb dX5_cellsFrom_44 rfl ?_
                  refine lv_lor hx hb dX5_cellsFrom_45 ?_
                  refine lv_lstore_n (lv' := [(3, .long (k_b ||| ((1 : Int64) <<< (((z59 k_i.toNatClampNeg) - (z59 k_i.toNatClampNeg) / 64 * 64).toInt64 &&& 63)))), (6, .int k_i), (5, .int 3), (0, .ref a_42), (1, .int p_c), (2, .int p_h)]) hx hb dX5_cellsFrom_46 rfl hl (by decide) rfl (fun ls hl => ?_)
                  refine lv_iinc (v := (k_i + 1)) (lv' := [(6, .int (k_i + 1)), (3, .long (k_b ||| ((1 : Int64) <<< (((z59 k_i.toNatClampNeg) - (z59 k_i.toNatClampNeg) / 64 * 64).toInt64 &&& 63)))), (5, .int 3), (0, .ref a_42), (1, .int p_c), (2, .int p_h)]) hx hb dX5_cellsFrom_47 hl (k := 1) rfl rfl (by decide) rfl (fun ls hl => ?_)
                  have t_68 : (k_i + 1).toInt = k_i.toInt + 1 := g5_iadd (a := k_i.toInt) (b := 1) rfl (by decide) (by omega) (by omega)
                  refine lv_goto (tgt := 23) hx hb dX5_cellsFrom_50 (by decide) ?_
                  exact ih_23_63 ((k_i + 1), (k_b ||| ((1 : Int64) <<< (((z59 k_i.toNatClampNeg) - (z59 k_i.toNatClampNeg) / 64 * 64).toInt64 &&& 63)))) ls H locs (show Int.toNat (7 - (k_i + 1).toInt) < Int.toNat (7 - k_i.toInt) by omega) ⟨lv_sub hl [1, 0, 2, 3, 4, 5] rfl, hP, hD, hS, ⟨by omega, by omega⟩, by omega, g5_ray i_62 (by omega) (by omega) (by unfold gW; simp only [if_true, reduceIte, Nat.reduceEqDiff]; omega) (by omega)⟩
            ·
              have i_48 : k_i.toInt < z40.toInt := by have z := g5_geN (a := k_i.toInt) (b := z40.toInt) (by rfl) (by rfl) c_48; omega
              refine lv_lload_n hx hb dX5_cellsFrom_32 rfl (lv_at hl 0 rfl) ?_
              refine lv_lconst (v := 1) hx hb dX5_cellsFrom_33 (by decide) ?_
              refine lv_aload_n hx hb dX5_cellsFrom_34 rfl (lv_at hl 3 rfl) ?_
              refine va_get (D := G.1) (ci := 5) (v := .ref a_46) (C := RX5) (T := TX5) (N := 13) hx hb hts inG_X5 hown hK hP 0 rfl rfl 2 (by decide) (hts _ fl_X5_18) (fun _ h9 => h9) rfl dX5_cellsFrom_35 ?_
              refine lv_iload hx hb dX5_cellsFrom_38 (lv_at hl 1 rfl) ?_
              have tz_69 := g5_clamp k_i
              have t_69 := i_39 (k_i.toNatClampNeg) (by omega)
              refine va_iald hx hb hK hP 2 0 rfl rfl (i := k_i) (vp_in_iff.mpr ⟨by omega, by omega⟩) dX5_cellsFrom_40 ?_
              refine lv_bipush (v := 64) hx hb dX5_cellsFrom_41 (by decide) ?_
              refine lv_irem hx hb dX5_cellsFrom_43 (by decide) ?_
              have t_70 : ((z43 k_i.toNatClampNeg) - (z43 k_i.toNatClampNeg) / 64 * 64).toInt = (z43 k_i.toNatClampNeg).toInt % 64 := g5_irem (a := (z43 k_i.toNatClampNeg).toInt) (b := 64) rfl (by decide) (by omega) (by decide)
              refine lv_lshl (v := ((1 : Int64) <<< (((z43 k_i.toNatClampNeg) - (z43 k_i.toNatClampNeg) / 64 * 64).toInt64 &&& 63))) hx hb dX5_cellsFrom_44 rfl ?_
              refine lv_lor hx hb dX5_cellsFrom_45 ?_
              refine lv_lstore_n (lv' := [(3, .long (k_b ||| ((1 : Int64) <<< (((z43 k_i.toNatClampNeg) - (z43 k_i.toNatClampNeg) / 64 * 64).toInt64 &&& 63)))), (6, .int k_i), (5, .int 2), (0, .ref a_42), (1, .int p_c), (2, .int p_h)]) hx hb dX5_cellsFrom_46 rfl hl (by decide) rfl (fun ls hl => ?_)
              refine lv_iinc (v := (k_i + 1)) (lv' := [(6, .int (k_i + 1)), (3, .long (k_b ||| ((1 : Int64) <<< (((z43 k_i.toNatClampNeg) - (z43 k_i.toNatClampNeg) / 64 * 64).toInt64 &&& 63)))), (5, .int 2), (0, .ref a_42), (1, .int p_c), (2, .int p_h)]) hx hb dX5_cellsFrom_47 hl (k := 1) rfl rfl (by decide) rfl (fun ls hl => ?_)
              have t_71 : (k_i + 1).toInt = k_i.toInt + 1 := g5_iadd (a := k_i.toInt) (b := 1) rfl (by decide) (by omega) (by omega)
              refine lv_goto (tgt := 23) hx hb dX5_cellsFrom_50 (by decide) ?_
              exact ih_23_47 ((k_i + 1), (k_b ||| ((1 : Int64) <<< (((z43 k_i.toNatClampNeg) - (z43 k_i.toNatClampNeg) / 64 * 64).toInt64 &&& 63)))) ls H locs (show Int.toNat (7 - (k_i + 1).toInt) < Int.toNat (7 - k_i.toInt) by omega) ⟨lv_sub hl [1, 0, 2, 3, 4, 5] rfl, hP, hD, hS, ⟨by omega, by omega⟩, by omega, g5_ray i_46 (by omega) (by omega) (by unfold gW; simp only [if_true, reduceIte, Nat.reduceEqDiff]; omega) (by omega)⟩
        ·
          have i_32 : k_i.toInt < z24.toInt := by have z := g5_geN (a := k_i.toInt) (b := z24.toInt) (by rfl) (by rfl) c_32; omega
          refine lv_lload_n hx hb dX5_cellsFrom_32 rfl (lv_at hl 0 rfl) ?_
          refine lv_lconst (v := 1) hx hb dX5_cellsFrom_33 (by decide) ?_
          refine lv_aload_n hx hb dX5_cellsFrom_34 rfl (lv_at hl 3 rfl) ?_
          refine va_get (D := G.1) (ci := 5) (v := .ref a_46) (C := RX5) (T := TX5) (N := 13) hx hb hts inG_X5 hown hK hP 0 rfl rfl 2 (by decide) (hts _ fl_X5_18) (fun _ h9 => h9) rfl dX5_cellsFrom_35 ?_
          refine lv_iload hx hb dX5_cellsFrom_38 (lv_at hl 1 rfl) ?_
          have tz_72 := g5_clamp k_i
          have t_72 := i_23 (k_i.toNatClampNeg) (by omega)
          refine va_iald hx hb hK hP 2 0 rfl rfl (i := k_i) (vp_in_iff.mpr ⟨by omega, by omega⟩) dX5_cellsFrom_40 ?_
          refine lv_bipush (v := 64) hx hb dX5_cellsFrom_41 (by decide) ?_
          refine lv_irem hx hb dX5_cellsFrom_43 (by decide) ?_
          have t_73 : ((z27 k_i.toNatClampNeg) - (z27 k_i.toNatClampNeg) / 64 * 64).toInt = (z27 k_i.toNatClampNeg).toInt % 64 := g5_irem (a := (z27 k_i.toNatClampNeg).toInt) (b := 64) rfl (by decide) (by omega) (by decide)
          refine lv_lshl (v := ((1 : Int64) <<< (((z27 k_i.toNatClampNeg) - (z27 k_i.toNatClampNeg) / 64 * 64).toInt64 &&& 63))) hx hb dX5_cellsFrom_44 rfl ?_
          refine lv_lor hx hb dX5_cellsFrom_45 ?_
          refine lv_lstore_n (lv' := [(3, .long (k_b ||| ((1 : Int64) <<< (((z27 k_i.toNatClampNeg) - (z27 k_i.toNatClampNeg) / 64 * 64).toInt64 &&& 63)))), (6, .int k_i), (5, .int 1), (0, .ref a_42), (1, .int p_c), (2, .int p_h)]) hx hb dX5_cellsFrom_46 rfl hl (by decide) rfl (fun ls hl => ?_)
          refine lv_iinc (v := (k_i + 1)) (lv' := [(6, .int (k_i + 1)), (3, .long (k_b ||| ((1 : Int64) <<< (((z27 k_i.toNatClampNeg) - (z27 k_i.toNatClampNeg) / 64 * 64).toInt64 &&& 63)))), (5, .int 1), (0, .ref a_42), (1, .int p_c), (2, .int p_h)]) hx hb dX5_cellsFrom_47 hl (k := 1) rfl rfl (by decide) rfl (fun ls hl => ?_)
          have t_74 : (k_i + 1).toInt = k_i.toInt + 1 := g5_iadd (a := k_i.toInt) (b := 1) rfl (by decide) (by omega) (by omega)
          refine lv_goto (tgt := 23) hx hb dX5_cellsFrom_50 (by decide) ?_
          exact ih_23_31 ((k_i + 1), (k_b ||| ((1 : Int64) <<< (((z27 k_i.toNatClampNeg) - (z27 k_i.toNatClampNeg) / 64 * 64).toInt64 &&& 63)))) ls H locs (show Int.toNat (7 - (k_i + 1).toInt) < Int.toNat (7 - k_i.toInt) by omega) ⟨lv_sub hl [1, 0, 2, 3, 4, 5] rfl, hP, hD, hS, ⟨by omega, by omega⟩, by omega, g5_ray i_30 (by omega) (by omega) (by unfold gW; simp only [if_true, reduceIte, Nat.reduceEqDiff]; omega) (by omega)⟩
    ·
      have i_16 : k_i.toInt < z8.toInt := by have z := g5_geN (a := k_i.toInt) (b := z8.toInt) (by rfl) (by rfl) c_16; omega
      refine lv_lload_n hx hb dX5_cellsFrom_32 rfl (lv_at hl 0 rfl) ?_
      refine lv_lconst (v := 1) hx hb dX5_cellsFrom_33 (by decide) ?_
      refine lv_aload_n hx hb dX5_cellsFrom_34 rfl (lv_at hl 3 rfl) ?_
      refine va_get (D := G.1) (ci := 5) (v := .ref a_46) (C := RX5) (T := TX5) (N := 13) hx hb hts inG_X5 hown hK hP 0 rfl rfl 2 (by decide) (hts _ fl_X5_18) (fun _ h9 => h9) rfl dX5_cellsFrom_35 ?_
      refine lv_iload hx hb dX5_cellsFrom_38 (lv_at hl 1 rfl) ?_
      have tz_75 := g5_clamp k_i
      have t_75 := i_7 (k_i.toNatClampNeg) (by omega)
      refine va_iald hx hb hK hP 2 0 rfl rfl (i := k_i) (vp_in_iff.mpr ⟨by omega, by omega⟩) dX5_cellsFrom_40 ?_
      refine lv_bipush (v := 64) hx hb dX5_cellsFrom_41 (by decide) ?_
      refine lv_irem hx hb dX5_cellsFrom_43 (by decide) ?_
      have t_76 : ((z11 k_i.toNatClampNeg) - (z11 k_i.toNatClampNeg) / 64 * 64).toInt = (z11 k_i.toNatClampNeg).toInt % 64 := g5_irem (a := (z11 k_i.toNatClampNeg).toInt) (b := 64) rfl (by decide) (by omega) (by decide)
      refine lv_lshl (v := ((1 : Int64) <<< (((z11 k_i.toNatClampNeg) - (z11 k_i.toNatClampNeg) / 64 * 64).toInt64 &&& 63))) hx hb dX5_cellsFrom_44 rfl ?_
      refine lv_lor hx hb dX5_cellsFrom_45 ?_
      refine lv_lstore_n (lv' := [(3, .long (k_b ||| ((1 : Int64) <<< (((z11 k_i.toNatClampNeg) - (z11 k_i.toNatClampNeg) / 64 * 64).toInt64 &&& 63)))), (6, .int k_i), (5, .int 0), (0, .ref a_42), (1, .int p_c), (2, .int p_h)]) hx hb dX5_cellsFrom_46 rfl hl (by decide) rfl (fun ls hl => ?_)
      refine lv_iinc (v := (k_i + 1)) (lv' := [(6, .int (k_i + 1)), (3, .long (k_b ||| ((1 : Int64) <<< (((z11 k_i.toNatClampNeg) - (z11 k_i.toNatClampNeg) / 64 * 64).toInt64 &&& 63)))), (5, .int 0), (0, .ref a_42), (1, .int p_c), (2, .int p_h)]) hx hb dX5_cellsFrom_47 hl (k := 1) rfl rfl (by decide) rfl (fun ls hl => ?_)
      have t_77 : (k_i + 1).toInt = k_i.toInt + 1 := g5_iadd (a := k_i.toInt) (b := 1) rfl (by decide) (by omega) (by omega)
      refine lv_goto (tgt := 23) hx hb dX5_cellsFrom_50 (by decide) ?_
      exact ih_23_15 ((k_i + 1), (k_b ||| ((1 : Int64) <<< (((z11 k_i.toNatClampNeg) - (z11 k_i.toNatClampNeg) / 64 * 64).toInt64 &&& 63)))) ls H locs (show Int.toNat (7 - (k_i + 1).toInt) < Int.toNat (7 - k_i.toInt) by omega) ⟨lv_sub hl [1, 0, 2, 3, 4, 5] rfl, hP, hD, hS, ⟨by omega, by omega⟩, by omega, g5_ray i_14 (by omega) (by omega) (by unfold gW; simp only [if_true, reduceIte, Nat.reduceEqDiff]; omega) (by omega)⟩
theorem dX11_wander_0 : decode cX11_wander 0 = .ok (.iload_n 1, 1) := by decide +kernel
theorem dX11_wander_1 : decode cX11_wander 1 = .ok (.ifCond .lt 16, 3) := by decide +kernel
theorem dX11_wander_4 : decode cX11_wander 4 = .ok (.iload_n 1, 1) := by decide +kernel
theorem dX11_wander_5 : decode cX11_wander 5 = .ok (.ldc 181, 2) := by decide +kernel
theorem dX11_wander_7 : decode cX11_wander 7 = .ok (.if_icmp .gt 10, 3) := by decide +kernel
theorem dX11_wander_10 : decode cX11_wander 10 = .ok (.iload_n 2, 1) := by decide +kernel
theorem dX11_wander_11 : decode cX11_wander 11 = .ok (.invokestatic 97, 3) := by decide +kernel
theorem dX11_wander_14 : decode cX11_wander 14 = .ok (.ifCond .ne 9, 3) := by decide +kernel
theorem dX11_wander_17 : decode cX11_wander 17 = .ok (.aload_n 0, 1) := by decide +kernel
theorem dX11_wander_18 : decode cX11_wander 18 = .ok (.iconst (-1), 1) := by decide +kernel
theorem dX11_wander_19 : decode cX11_wander 19 = .ok (.invokevirtual 104, 3) := by decide +kernel
theorem dX11_wander_22 : decode cX11_wander 22 = .ok (.ireturn, 1) := by decide +kernel
theorem dX11_wander_23 : decode cX11_wander 23 = .ok (.aload_n 0, 1) := by decide +kernel
theorem dX11_wander_24 : decode cX11_wander 24 = .ok (.getfield 12, 3) := by decide +kernel
theorem dX11_wander_27 : decode cX11_wander 27 = .ok (.getfield 111, 3) := by decide +kernel
theorem dX11_wander_30 : decode cX11_wander 30 = .ok (.iload_n 2, 1) := by decide +kernel
theorem dX11_wander_31 : decode cX11_wander 31 = .ok (.invokestatic 115, 3) := by decide +kernel
theorem dX11_wander_34 : decode cX11_wander 34 = .ok (.ifCond .eq 10, 3) := by decide +kernel
theorem dX11_wander_37 : decode cX11_wander 37 = .ok (.aload_n 0, 1) := by decide +kernel
theorem dX11_wander_38 : decode cX11_wander 38 = .ok (.bipush (-3), 2) := by decide +kernel
theorem dX11_wander_40 : decode cX11_wander 40 = .ok (.invokevirtual 104, 3) := by decide +kernel
theorem dX11_wander_43 : decode cX11_wander 43 = .ok (.ireturn, 1) := by decide +kernel
theorem dX11_wander_44 : decode cX11_wander 44 = .ok (.aload_n 0, 1) := by decide +kernel
theorem dX11_wander_45 : decode cX11_wander 45 = .ok (.getfield 38, 3) := by decide +kernel
theorem dX11_wander_48 : decode cX11_wander 48 = .ok (.invokevirtual 254, 3) := by decide +kernel
theorem dX11_wander_51 : decode cX11_wander 51 = .ok (.aload_n 0, 1) := by decide +kernel
theorem dX11_wander_52 : decode cX11_wander 52 = .ok (.iconst 1, 1) := by decide +kernel
theorem dX11_wander_53 : decode cX11_wander 53 = .ok (.putfield 87, 3) := by decide +kernel
theorem dX11_wander_56 : decode cX11_wander 56 = .ok (.iload_n 1, 1) := by decide +kernel
theorem dX11_wander_57 : decode cX11_wander 57 = .ok (.i2l, 1) := by decide +kernel
theorem dX11_wander_58 : decode cX11_wander 58 = .ok (.lstore_n 3, 1) := by decide +kernel
theorem dX11_wander_59 : decode cX11_wander 59 = .ok (.iload_n 2, 1) := by decide +kernel
theorem dX11_wander_60 : decode cX11_wander 60 = .ok (.istore 5, 2) := by decide +kernel
theorem dX11_wander_62 : decode cX11_wander 62 = .ok (.iconst 0, 1) := by decide +kernel
theorem dX11_wander_63 : decode cX11_wander 63 = .ok (.istore 6, 2) := by decide +kernel
theorem dX11_wander_65 : decode cX11_wander 65 = .ok (.iconst 0, 1) := by decide +kernel
theorem dX11_wander_66 : decode cX11_wander 66 = .ok (.istore 7, 2) := by decide +kernel
theorem dX11_wander_68 : decode cX11_wander 68 = .ok (.iload 7, 2) := by decide +kernel
theorem dX11_wander_70 : decode cX11_wander 70 = .ok (.bipush 24, 2) := by decide +kernel
theorem dX11_wander_72 : decode cX11_wander 72 = .ok (.if_icmp .ge 101, 3) := by decide +kernel
theorem dX11_wander_75 : decode cX11_wander 75 = .ok (.iload 7, 2) := by decide +kernel
theorem dX11_wander_77 : decode cX11_wander 77 = .ok (.ifCond .le 60, 3) := by decide +kernel
theorem dX11_wander_80 : decode cX11_wander 80 = .ok (.lload_n 3, 1) := by decide +kernel
theorem dX11_wander_81 : decode cX11_wander 81 = .ok (.ldc2_w 340, 3) := by decide +kernel
theorem dX11_wander_84 : decode cX11_wander 84 = .ok (.lmul, 1) := by decide +kernel
theorem dX11_wander_85 : decode cX11_wander 85 = .ok (.ldc2_w 342, 3) := by decide +kernel
theorem dX11_wander_88 : decode cX11_wander 88 = .ok (.ladd, 1) := by decide +kernel
theorem dX11_wander_89 : decode cX11_wander 89 = .ok (.ldc2_w 344, 3) := by decide +kernel
theorem dX11_wander_92 : decode cX11_wander 92 = .ok (.lrem, 1) := by decide +kernel
theorem dX11_wander_93 : decode cX11_wander 93 = .ok (.lstore_n 3, 1) := by decide +kernel
theorem dX11_wander_94 : decode cX11_wander 94 = .ok (.iload 5, 2) := by decide +kernel
theorem dX11_wander_96 : decode cX11_wander 96 = .ok (.lload_n 3, 1) := by decide +kernel
theorem dX11_wander_97 : decode cX11_wander 97 = .ok (.ldc2_w 346, 3) := by decide +kernel
theorem dX11_wander_100 : decode cX11_wander 100 = .ok (.lrem, 1) := by decide +kernel
theorem dX11_wander_101 : decode cX11_wander 101 = .ok (.l2i, 1) := by decide +kernel
theorem dX11_wander_102 : decode cX11_wander 102 = .ok (.invokestatic 348, 3) := by decide +kernel
theorem dX11_wander_105 : decode cX11_wander 105 = .ok (.istore 8, 2) := by decide +kernel
theorem dX11_wander_107 : decode cX11_wander 107 = .ok (.iload 8, 2) := by decide +kernel
theorem dX11_wander_109 : decode cX11_wander 109 = .ok (.iconst (-1), 1) := by decide +kernel
theorem dX11_wander_110 : decode cX11_wander 110 = .ok (.if_icmp .eq 18, 3) := by decide +kernel
theorem dX11_wander_113 : decode cX11_wander 113 = .ok (.aload_n 0, 1) := by decide +kernel
theorem dX11_wander_114 : decode cX11_wander 114 = .ok (.getfield 12, 3) := by decide +kernel
theorem dX11_wander_117 : decode cX11_wander 117 = .ok (.getfield 111, 3) := by decide +kernel
theorem dX11_wander_120 : decode cX11_wander 120 = .ok (.iload 8, 2) := by decide +kernel
theorem dX11_wander_122 : decode cX11_wander 122 = .ok (.invokestatic 115, 3) := by decide +kernel
theorem dX11_wander_125 : decode cX11_wander 125 = .ok (.ifCond .eq 8, 3) := by decide +kernel
theorem dX11_wander_128 : decode cX11_wander 128 = .ok (.iload 5, 2) := by decide +kernel
theorem dX11_wander_130 : decode cX11_wander 130 = .ok (.goto 5, 3) := by decide +kernel
theorem dX11_wander_133 : decode cX11_wander 133 = .ok (.iload 8, 2) := by decide +kernel
theorem dX11_wander_135 : decode cX11_wander 135 = .ok (.istore 5, 2) := by decide +kernel
theorem dX11_wander_137 : decode cX11_wander 137 = .ok (.aload_n 0, 1) := by decide +kernel
theorem dX11_wander_138 : decode cX11_wander 138 = .ok (.getfield 84, 3) := by decide +kernel
theorem dX11_wander_141 : decode cX11_wander 141 = .ok (.iload 7, 2) := by decide +kernel
theorem dX11_wander_143 : decode cX11_wander 143 = .ok (.iload 5, 2) := by decide +kernel
theorem dX11_wander_145 : decode cX11_wander 145 = .ok (.iastore, 1) := by decide +kernel
theorem dX11_wander_146 : decode cX11_wander 146 = .ok (.aload_n 0, 1) := by decide +kernel
theorem dX11_wander_147 : decode cX11_wander 147 = .ok (.getfield 38, 3) := by decide +kernel
theorem dX11_wander_150 : decode cX11_wander 150 = .ok (.getfield 257, 3) := by decide +kernel
theorem dX11_wander_153 : decode cX11_wander 153 = .ok (.iload 7, 2) := by decide +kernel
theorem dX11_wander_155 : decode cX11_wander 155 = .ok (.laload, 1) := by decide +kernel
theorem dX11_wander_156 : decode cX11_wander 156 = .ok (.iload 5, 2) := by decide +kernel
theorem dX11_wander_158 : decode cX11_wander 158 = .ok (.invokestatic 115, 3) := by decide +kernel
theorem dX11_wander_161 : decode cX11_wander 161 = .ok (.ifCond .eq 6, 3) := by decide +kernel
theorem dX11_wander_164 : decode cX11_wander 164 = .ok (.iinc 6 1, 3) := by decide +kernel
theorem dX11_wander_167 : decode cX11_wander 167 = .ok (.iinc 7 1, 3) := by decide +kernel
theorem dX11_wander_170 : decode cX11_wander 170 = .ok (.goto (-102), 3) := by decide +kernel
theorem dX11_wander_173 : decode cX11_wander 173 = .ok (.aload_n 0, 1) := by decide +kernel
theorem dX11_wander_174 : decode cX11_wander 174 = .ok (.iload 6, 2) := by decide +kernel
theorem dX11_wander_176 : decode cX11_wander 176 = .ok (.invokevirtual 121, 3) := by decide +kernel
theorem dX11_wander_179 : decode cX11_wander 179 = .ok (.ireturn, 1) := by decide +kernel
theorem dX11_refuse_0 : decode cX11_refuse 0 = .ok (.aload_n 0, 1) := by decide +kernel
theorem dX11_refuse_1 : decode cX11_refuse 1 = .ok (.iload_n 1, 1) := by decide +kernel
theorem dX11_refuse_2 : decode cX11_refuse 2 = .ok (.putfield 94, 3) := by decide +kernel
theorem dX11_refuse_5 : decode cX11_refuse 5 = .ok (.iload_n 1, 1) := by decide +kernel
theorem dX11_refuse_6 : decode cX11_refuse 6 = .ok (.bipush (-3), 2) := by decide +kernel
theorem dX11_refuse_8 : decode cX11_refuse 8 = .ok (.if_icmp .lt 10, 3) := by decide +kernel
theorem dX11_refuse_11 : decode cX11_refuse 11 = .ok (.iload_n 1, 1) := by decide +kernel
theorem dX11_refuse_12 : decode cX11_refuse 12 = .ok (.ineg, 1) := by decide +kernel
theorem dX11_refuse_13 : decode cX11_refuse 13 = .ok (.iconst 1, 1) := by decide +kernel
theorem dX11_refuse_14 : decode cX11_refuse 14 = .ok (.isub, 1) := by decide +kernel
theorem dX11_refuse_15 : decode cX11_refuse 15 = .ok (.goto 7, 3) := by decide +kernel
theorem dX11_refuse_18 : decode cX11_refuse 18 = .ok (.iload_n 1, 1) := by decide +kernel
theorem dX11_refuse_19 : decode cX11_refuse 19 = .ok (.ineg, 1) := by decide +kernel
theorem dX11_refuse_20 : decode cX11_refuse 20 = .ok (.iconst 2, 1) := by decide +kernel
theorem dX11_refuse_21 : decode cX11_refuse 21 = .ok (.isub, 1) := by decide +kernel
theorem dX11_refuse_22 : decode cX11_refuse 22 = .ok (.istore_n 2, 1) := by decide +kernel
theorem dX11_refuse_23 : decode cX11_refuse 23 = .ok (.iload_n 2, 1) := by decide +kernel
theorem dX11_refuse_24 : decode cX11_refuse 24 = .ok (.ifCond .lt 22, 3) := by decide +kernel
theorem dX11_refuse_27 : decode cX11_refuse 27 = .ok (.iload_n 2, 1) := by decide +kernel
theorem dX11_refuse_28 : decode cX11_refuse 28 = .ok (.aload_n 0, 1) := by decide +kernel
theorem dX11_refuse_29 : decode cX11_refuse 29 = .ok (.getfield 91, 3) := by decide +kernel
theorem dX11_refuse_32 : decode cX11_refuse 32 = .ok (.arraylength, 1) := by decide +kernel
theorem dX11_refuse_33 : decode cX11_refuse 33 = .ok (.if_icmp .ge 13, 3) := by decide +kernel
theorem dX11_refuse_36 : decode cX11_refuse 36 = .ok (.aload_n 0, 1) := by decide +kernel
theorem dX11_refuse_37 : decode cX11_refuse 37 = .ok (.getfield 91, 3) := by decide +kernel
theorem dX11_refuse_40 : decode cX11_refuse 40 = .ok (.iload_n 2, 1) := by decide +kernel
theorem dX11_refuse_41 : decode cX11_refuse 41 = .ok (.dup2, 1) := by decide +kernel
theorem dX11_refuse_42 : decode cX11_refuse 42 = .ok (.iaload, 1) := by decide +kernel
theorem dX11_refuse_43 : decode cX11_refuse 43 = .ok (.iconst 1, 1) := by decide +kernel
theorem dX11_refuse_44 : decode cX11_refuse 44 = .ok (.iadd, 1) := by decide +kernel
theorem dX11_refuse_45 : decode cX11_refuse 45 = .ok (.iastore, 1) := by decide +kernel
theorem dX11_refuse_46 : decode cX11_refuse 46 = .ok (.iload_n 1, 1) := by decide +kernel
theorem dX11_refuse_47 : decode cX11_refuse 47 = .ok (.ireturn, 1) := by decide +kernel
set_option maxHeartbeats 4000000 in
set_option maxRecDepth 100000 in
theorem kX11_refuse (l : Launch) (G : g5_G) (a0 a1 a2 a3 a4 a5 a6 a7 a8 a9 a10 a11 a12 : Nat) (sz : Nat) : Met l yX11_refuse (wsG yX11_refuse cX11_refuse 3 (some .int)) ({ frames := 0, cells := 0, slots := 0, locals := 0 }) (va_Pc [.ref a0, .int (-1)] (g5_P G [(a0, .inr (11, [.ref a1, .ref a2, .ref a3, .ref a4, .ref a5, .ref a6, .ref a7, .ref a8, .ref a9, .ref a10, .int 0, .int 0, .int (-1), .ref a11, .int 0, .ref a12, .int 0])), (a12, .inl (G.2 0, 5, .inl (fun _ => 0)))] sz)) (va_Qi (fun (r : Int32) (u : va_W) => ((r = (-1)) ∧ (u = [(a0, .inr (11, [.ref a1, .ref a2, .ref a3, .ref a4, .ref a5, .ref a6, .ref a7, .ref a8, .ref a9, .ref a10, .int 0, .int 0, .int (-1), .ref a11, .int 0, .ref a12, .int (-1)])), (a12, .inl (G.2 0, 5, .inl (upd (fun _ => 0) 0 1)))]))) (g5_B G (va_A [(a0, .inr (11, [.ref a1, .ref a2, .ref a3, .ref a4, .ref a5, .ref a6, .ref a7, .ref a8, .ref a9, .ref a10, .int 0, .int 0, .int (-1), .ref a11, .int 0, .ref a12, .int 0])), (a12, .inl (G.2 0, 5, .inl (fun _ => 0)))] sz)) (va_A [(a0, .inr (11, [.ref a1, .ref a2, .ref a3, .ref a4, .ref a5, .ref a6, .ref a7, .ref a8, .ref a9, .ref a10, .int 0, .int 0, .int (-1), .ref a11, .int 0, .ref a12, .int 0])), (a12, .inl (G.2 0, 5, .inl (fun _ => 0)))] sz)) 0 0 (va_A [(a0, .inr (11, [.ref a1, .ref a2, .ref a3, .ref a4, .ref a5, .ref a6, .ref a7, .ref a8, .ref a9, .ref a10, .int 0, .int 0, .int (-1), .ref a11, .int 0, .ref a12, .int 0])), (a12, .inl (G.2 0, 5, .inl (fun _ => 0)))] sz) := by
  refine Met.ofW (cc := cX11_refuse) (maxL := 3) (ret := (some .int)) (by decide) rfl ?_
  intro p e s m args below meth c s₁ B hml hv
  obtain ⟨rfl, hsz, hP, hK, hD0, hN, hT⟩ := hv
  have hx := B.exec
  have hb := B.bytes
  have hr := B.returns
  have hts : ∀ w ∈ tblG, w.before _ s = true := fun w h => atoms_spec (ws := (wsG yX11_refuse cX11_refuse 3 (some .int))) B.pre w (List.mem_cons_of_mem _ h)
  have hown : s.vm.findClass RX11 = some m.cls := findClass_of_methodNamed B.named
  have hlocks := B.notSynchronized
  subst hsz
  have hD := hD0.self (sz := s.heap.size)
  generalize hAe : va_A [(a0, .inr (11, [.ref a1, .ref a2, .ref a3, .ref a4, .ref a5, .ref a6, .ref a7, .ref a8, .ref a9, .ref a10, .int 0, .int 0, .int (-1), .ref a11, .int 0, .ref a12, .int 0])), (a12, .inl (G.2 0, 5, .inl (fun _ => 0)))] s.heap.size = A at hD hT ⊢
  have hA : ∀ q : Nat, s.heap.size ≤ q → A q := fun q h => by rw [← hAe]; exact Or.inr h
  have hS : va_S A s.heap s.heap [] := va_S.rf
  have hP : va_P G.1 vwCl [(a0, .inr (11, [.ref a1, .ref a2, .ref a3, .ref a4, .ref a5, .ref a6, .ref a7, .ref a8, .ref a9, .ref a10, .int 0, .int 0, .int (-1), .ref a11, .int 0, .ref a12, .int 0])), (a12, .inl (G.2 0, 5, .inl (fun _ => 0)))] s.heap := hP
  have hl := lv_entry ([.ref a0, .int (-1)]) (n := 3) (Nat.le_of_ble_eq_true rfl)
  rw [lg_entry_eq]
  generalize (lg_sl ([.ref a0, .int (-1)]) ++ List.replicate (3 - (lg_sl ([.ref a0, .int (-1)])).length) Slot.unset).toArray = ls at hl ⊢
  have hl : lv_has ls 3 [(0, .ref a0), (1, .int (-1))] := hl
  refine lv_aload_n hx hb dX11_refuse_0 rfl (lv_at hl 0 rfl) ?_
  refine lv_iload_n hx hb dX11_refuse_1 rfl (lv_at hl 1 rfl) ?_
  refine va_put (D := G.1) (ci := 11) (v := .int (-1)) (ty := .int) (C := RX11) (T := TX11) (N := 17) hx hb hts inG_X11 tyX11 tyX11_ok nmX11 hown hK hP hD hS 0 rfl rfl 16 (by decide) (hts _ fl_X11_94) (fun _ h9 => h9) rfl (by decide +kernel) rfl rfl (Nat.le_of_ble_eq_true rfl) dX11_refuse_2 (fun H locs hP hD hS => ?_)
  have hP : va_P G.1 vwCl [(a0, .inr (11, [.ref a1, .ref a2, .ref a3, .ref a4, .ref a5, .ref a6, .ref a7, .ref a8, .ref a9, .ref a10, .int 0, .int 0, .int (-1), .ref a11, .int 0, .ref a12, .int (-1)])), (a12, .inl (G.2 0, 5, .inl (fun _ => 0)))] H := hP
  have hD : va_D A [(a0, .inr (11, [.ref a1, .ref a2, .ref a3, .ref a4, .ref a5, .ref a6, .ref a7, .ref a8, .ref a9, .ref a10, .int 0, .int 0, .int (-1), .ref a11, .int 0, .ref a12, .int (-1)])), (a12, .inl (G.2 0, 5, .inl (fun _ => 0)))] := hD
  refine lv_iload_n hx hb dX11_refuse_5 rfl (lv_at hl 1 rfl) ?_
  refine lv_bipush (v := (-3)) hx hb dX11_refuse_6 (by decide) ?_
  refine lv_icmp_lt (tgt := 18) hx hb dX11_refuse_8 (by decide) (fun c_1 => ?_) (fun c_1 => ?_)
  ·
    exact absurd c_1 (by decide)
  ·
    refine lv_iload_n hx hb dX11_refuse_11 rfl (lv_at hl 1 rfl) ?_
    refine lv_ineg hx hb dX11_refuse_12 ?_
    refine g5_ti (v := 1) (by decide) ?_
    refine lv_iconst (v := 1) hx hb dX11_refuse_13 (by decide) ?_
    refine lv_isub hx hb dX11_refuse_14 ?_
    refine g5_ti (v := 0) (by decide) ?_
    refine lv_goto (tgt := 22) hx hb dX11_refuse_15 (by decide) ?_
    refine lv_istore_n (lv' := [(2, .int 0), (0, .ref a0), (1, .int (-1))]) hx hb dX11_refuse_22 rfl hl (by decide) rfl (fun ls hl => ?_)
    refine lv_iload_n hx hb dX11_refuse_23 rfl (lv_at hl 0 rfl) ?_
    refine lv_if_lt (tgt := 46) hx hb dX11_refuse_24 (by decide) (fun c_2 => ?_) (fun c_2 => ?_)
    ·
      exact absurd c_2 (by decide)
    ·
      refine lv_iload_n hx hb dX11_refuse_27 rfl (lv_at hl 0 rfl) ?_
      refine lv_aload_n hx hb dX11_refuse_28 rfl (lv_at hl 1 rfl) ?_
      refine va_get (D := G.1) (ci := 11) (v := .ref a12) (C := RX11) (T := TX11) (N := 17) hx hb hts inG_X11 hown hK hP 0 rfl rfl 15 (by decide) (hts _ fl_X11_91) (fun _ h9 => h9) rfl dX11_refuse_29 ?_
      refine va_alen hx hb hK hP 1 0 rfl rfl (v := 5) (by show Int32.ofNat 5 = 5; decide) dX11_refuse_32 ?_
      refine lv_icmp_ge (tgt := 46) hx hb dX11_refuse_33 (by decide) (fun c_3 => ?_) (fun c_3 => ?_)
      ·
        exact absurd c_3 (by decide)
      ·
        refine lv_aload_n hx hb dX11_refuse_36 rfl (lv_at hl 1 rfl) ?_
        refine va_get (D := G.1) (ci := 11) (v := .ref a12) (C := RX11) (T := TX11) (N := 17) hx hb hts inG_X11 hown hK hP 0 rfl rfl 15 (by decide) (hts _ fl_X11_91) (fun _ h9 => h9) rfl dX11_refuse_37 ?_
        refine lv_iload_n hx hb dX11_refuse_40 rfl (lv_at hl 0 rfl) ?_
        refine lv_dup2_11 hx hb dX11_refuse_41 rfl rfl ?_
        refine va_iald hx hb hK hP 1 0 rfl rfl (i := 0) (by unfold vp_in; decide) dX11_refuse_42 ?_
        refine g5_ti (v := 0) rfl ?_
        refine lv_iconst (v := 1) hx hb dX11_refuse_43 (by decide) ?_
        refine lv_iadd hx hb dX11_refuse_44 ?_
        refine g5_ti (v := 1) (by decide) ?_
        refine va_iast hx hb hK hP hD hS 1 0 rfl rfl (i := 0) (x := 1) (by unfold vp_in; decide) dX11_refuse_45 (fun H locs hP hD hS => ?_)
        have hP : va_P G.1 vwCl [(a0, .inr (11, [.ref a1, .ref a2, .ref a3, .ref a4, .ref a5, .ref a6, .ref a7, .ref a8, .ref a9, .ref a10, .int 0, .int 0, .int (-1), .ref a11, .int 0, .ref a12, .int (-1)])), (a12, .inl (G.2 0, 5, .inl (upd (fun _ => 0) 0 1)))] H := hP
        have hD : va_D A [(a0, .inr (11, [.ref a1, .ref a2, .ref a3, .ref a4, .ref a5, .ref a6, .ref a7, .ref a8, .ref a9, .ref a10, .int 0, .int 0, .int (-1), .ref a11, .int 0, .ref a12, .int (-1)])), (a12, .inl (G.2 0, 5, .inl (upd (fun _ => 0) 0 1)))] := hD
        refine lv_iload_n hx hb dX11_refuse_46 rfl (lv_at hl 2 rfl) ?_
        exact W.iret (v := (-1)) hx hb hr (fun t ht hW => ⟨⟨(-1), [(a0, .inr (11, [.ref a1, .ref a2, .ref a3, .ref a4, .ref a5, .ref a6, .ref a7, .ref a8, .ref a9, .ref a10, .int 0, .int 0, .int (-1), .ref a11, .int 0, .ref a12, .int (-1)])), (a12, .inl (G.2 0, 5, .inl (upd (fun _ => 0) 0 1)))], rfl, ⟨rfl, rfl⟩, by rw [ht]; exact hP, hD⟩, hS.F ht⟩) hS.2.2 dX11_refuse_47
theorem ml_X11_104 : Cond.methodLink RX11 104 yX11_refuse ∈ tblG := tg 506 (by decide +kernel) (by decide +kernel)
theorem im_X11_refuse : Cond.instanceMethod yX11_refuse ∈ tblG := tg 508 (by decide +kernel) (by decide +kernel)
theorem se_X11_refuse : Cond.selects RX11 yX11_refuse yX11_refuse ∈ tblG := tg 0 (by decide +kernel) (by decide +kernel)
theorem cd_X11_refuse : Cond.code yX11_refuse cX11_refuse 3 (some .int) ∈ tblG := tg 509 (by decide +kernel) (by decide +kernel)
theorem gW_X11_refuse : GoodIn tblG (wsG yX11_refuse cX11_refuse 3 (some .int)) := tgi cd_X11_refuse
theorem gV_X11_104 : GoodIn tblG (wsV RX11 104 RX11 yX11_refuse (wsG yX11_refuse cX11_refuse 3 (some .int))) := tgV ml_X11_104 im_X11_refuse se_X11_refuse ini_X11 gW_X11_refuse
theorem hv_X11_refuse : yX11_refuse.cls = RX11 ∧ yX11_refuse.cls ≠ "java/lang/invoke/MethodHandle" ∧ yX11_refuse.cls ≠ "java/lang/invoke/VarHandle" ∧ (parseMethodDescriptor yX11_refuse.desc).map (fun d => d.parameters.length) = some 1 := by decide +kernel
theorem ki_X11_181 : Cond.constant RX11 181 1000000 ∈ tblG := tg 612 (by decide +kernel) (by decide +kernel)
set_option maxHeartbeats 4000000 in
set_option maxRecDepth 100000 in
theorem kX11_isCell_2 (l : Launch) (G : g5_G) (sz : Nat) (n0 : Int32) : Met l yX11_isCell (wsG yX11_isCell cX11_isCell 1 (some .boolean)) ({ frames := 0, cells := 0, slots := 0, locals := 0 }) (va_Pc [.int n0] (g5_P G [] sz)) (va_Qi (fun (r : Int32) (u : va_W) => ((n0.toInt < 0) ∧ (r = 0) ∧ (u = [])) ∨ ((n0.toInt ≥ 0) ∧ (n0.toInt ≥ 64) ∧ (r = 0) ∧ (u = [])) ∨ ((n0.toInt ≥ 0) ∧ (n0.toInt < 64) ∧ (r = 1) ∧ (u = []))) (g5_B G (va_A [] sz)) (va_A [] sz)) 0 0 (va_A [] sz) := by
  refine Met.ofW (cc := cX11_isCell) (maxL := 1) (ret := (some .boolean)) (by decide) rfl ?_
  intro p e s m args below meth c s₁ B hml hv
  obtain ⟨rfl, hsz, hP, hK, hD0, hN, hT⟩ := hv
  have hx := B.exec
  have hb := B.bytes
  have hr := B.returns
  have hts : ∀ w ∈ tblG, w.before _ s = true := fun w h => atoms_spec (ws := (wsG yX11_isCell cX11_isCell 1 (some .boolean))) B.pre w (List.mem_cons_of_mem _ h)
  have hown : s.vm.findClass RX11 = some m.cls := findClass_of_methodNamed B.named
  have hlocks := B.notSynchronized
  subst hsz
  have hD := hD0.self (sz := s.heap.size)
  generalize hAe : va_A [] s.heap.size = A at hD hT ⊢
  have hA : ∀ q : Nat, s.heap.size ≤ q → A q := fun q h => by rw [← hAe]; exact Or.inr h
  have hS : va_S A s.heap s.heap [] := va_S.rf
  have hP : va_P G.1 vwCl [] s.heap := hP
  have hl := lv_entry ([.int n0]) (n := 1) (Nat.le_of_ble_eq_true rfl)
  rw [lg_entry_eq]
  generalize (lg_sl ([.int n0]) ++ List.replicate (1 - (lg_sl ([.int n0])).length) Slot.unset).toArray = ls at hl ⊢
  have hl : lv_has ls 1 [(0, .int n0)] := hl
  refine lv_iload_n hx hb dX11_isCell_0 rfl (lv_at hl 0 rfl) ?_
  refine lv_if_lt (tgt := 14) hx hb dX11_isCell_1 (by decide) (fun c_1 => ?_) (fun c_1 => ?_)
  ·
    have i_1 : n0.toInt < 0 := by have z := g5_lt (a := n0.toInt) (b := 0) (by rfl) (by decide) c_1; omega
    refine lv_iconst (v := 0) hx hb dX11_isCell_14 (by decide) ?_
    exact W.zret (v := 0) hx hb hr rfl (fun t ht hW => ⟨⟨0, [], rfl, Or.inl (⟨i_1, rfl, rfl⟩), by rw [ht]; exact hP, hD⟩, hS.F ht⟩) hS.2.2 dX11_isCell_15
  ·
    have i_1 : n0.toInt ≥ 0 := by have z := g5_ltN (a := n0.toInt) (b := 0) (by rfl) (by decide) c_1; omega
    refine lv_iload_n hx hb dX11_isCell_4 rfl (lv_at hl 0 rfl) ?_
    refine lv_bipush (v := 64) hx hb dX11_isCell_5 (by decide) ?_
    refine lv_icmp_ge (tgt := 14) hx hb dX11_isCell_7 (by decide) (fun c_2 => ?_) (fun c_2 => ?_)
    ·
      have i_2 : n0.toInt ≥ 64 := by have z := g5_ge (a := n0.toInt) (b := 64) (by rfl) (by decide) c_2; omega
      refine lv_iconst (v := 0) hx hb dX11_isCell_14 (by decide) ?_
      exact W.zret (v := 0) hx hb hr rfl (fun t ht hW => ⟨⟨0, [], rfl, Or.inr (Or.inl (⟨i_1, i_2, rfl, rfl⟩)), by rw [ht]; exact hP, hD⟩, hS.F ht⟩) hS.2.2 dX11_isCell_15
    ·
      have i_2 : n0.toInt < 64 := by have z := g5_geN (a := n0.toInt) (b := 64) (by rfl) (by decide) c_2; omega
      refine lv_iconst (v := 1) hx hb dX11_isCell_10 (by decide) ?_
      refine lv_goto (tgt := 15) hx hb dX11_isCell_11 (by decide) ?_
      exact W.zret (v := 1) hx hb hr rfl (fun t ht hW => ⟨⟨1, [], rfl, Or.inr (Or.inr (⟨i_1, i_2, rfl, rfl⟩)), by rw [ht]; exact hP, hD⟩, hS.F ht⟩) hS.2.2 dX11_isCell_15
theorem fl_X11_111 : Cond.fieldLink RX11 111 "LateGlass$House" "walls" "J" ∈ tblG := tg 154 (by decide +kernel) (by decide +kernel)
theorem ml_X11_115 : Cond.methodLink RX11 115 yX11_isOn ∈ tblG := tg 525 (by decide +kernel) (by decide +kernel)
theorem gS_X11_115 : GoodIn tblG (va_wsS RX11 115 yX11_isOn (wsG yX11_isOn cX11_isOn 3 (some .boolean))) := tgS ml_X11_115 st_X11_isOn ini_X11 gW_X11_isOn
theorem ml_X10_23 : Cond.methodLink RX10 23 yJ7_fill_d0a16 ∈ tblG := tg 917 (by decide +kernel) (by decide +kernel)
theorem gS_X10_23 : GoodIn tblG (va_wsS RX10 23 yJ7_fill_d0a16 (wsG yJ7_fill_d0a16 cJ7_fill_d0a16 5 none)) := tgS ml_X10_23 st_J7_fill_d0a16 ini_J7 gW_J7_fill_d0a16
theorem fl_X10_29 : Cond.fieldLink RX10 29 "LateGlass$House" "bodies" "LLateGlass$Table;" ∈ tblG := tg 174 (by decide +kernel) (by decide +kernel)
theorem fl_X10_35 : Cond.fieldLink RX10 35 "LateGlass$Table" "rows" "I" ∈ tblG := tg 139 (by decide +kernel) (by decide +kernel)
theorem dX10_lookAround_0 : decode cX10_lookAround 0 = .ok (.aload_n 0, 1) := by decide +kernel
theorem dX10_lookAround_1 : decode cX10_lookAround 1 = .ok (.getfield 9, 3) := by decide +kernel
theorem dX10_lookAround_4 : decode cX10_lookAround 4 = .ok (.lconst 0, 1) := by decide +kernel
theorem dX10_lookAround_5 : decode cX10_lookAround 5 = .ok (.invokestatic 23, 3) := by decide +kernel
theorem dX10_lookAround_8 : decode cX10_lookAround 8 = .ok (.iconst 0, 1) := by decide +kernel
theorem dX10_lookAround_9 : decode cX10_lookAround 9 = .ok (.istore_n 1, 1) := by decide +kernel
theorem dX10_lookAround_10 : decode cX10_lookAround 10 = .ok (.iload_n 1, 1) := by decide +kernel
theorem dX10_lookAround_11 : decode cX10_lookAround 11 = .ok (.aload_n 0, 1) := by decide +kernel
theorem dX10_lookAround_12 : decode cX10_lookAround 12 = .ok (.getfield 15, 3) := by decide +kernel
theorem dX10_lookAround_15 : decode cX10_lookAround 15 = .ok (.getfield 29, 3) := by decide +kernel
theorem dX10_lookAround_18 : decode cX10_lookAround 18 = .ok (.getfield 35, 3) := by decide +kernel
theorem dX10_lookAround_21 : decode cX10_lookAround 21 = .ok (.if_icmp .ge 72, 3) := by decide +kernel
theorem dX10_lookAround_24 : decode cX10_lookAround 24 = .ok (.iconst 0, 1) := by decide +kernel
theorem dX10_lookAround_25 : decode cX10_lookAround 25 = .ok (.istore_n 2, 1) := by decide +kernel
theorem dX10_lookAround_26 : decode cX10_lookAround 26 = .ok (.iload_n 2, 1) := by decide +kernel
theorem dX10_lookAround_27 : decode cX10_lookAround 27 = .ok (.bipush 24, 2) := by decide +kernel
theorem dX10_lookAround_29 : decode cX10_lookAround 29 = .ok (.if_icmp .ge 58, 3) := by decide +kernel
theorem dX10_lookAround_32 : decode cX10_lookAround 32 = .ok (.aload_n 0, 1) := by decide +kernel
theorem dX10_lookAround_33 : decode cX10_lookAround 33 = .ok (.getfield 15, 3) := by decide +kernel
theorem dX10_lookAround_36 : decode cX10_lookAround 36 = .ok (.getfield 29, 3) := by decide +kernel
theorem dX10_lookAround_39 : decode cX10_lookAround 39 = .ok (.iload_n 1, 1) := by decide +kernel
theorem dX10_lookAround_40 : decode cX10_lookAround 40 = .ok (.iload_n 2, 1) := by decide +kernel
theorem dX10_lookAround_41 : decode cX10_lookAround 41 = .ok (.invokevirtual 41, 3) := by decide +kernel
theorem dX10_lookAround_44 : decode cX10_lookAround 44 = .ok (.istore_n 3, 1) := by decide +kernel
theorem dX10_lookAround_45 : decode cX10_lookAround 45 = .ok (.iconst 0, 1) := by decide +kernel
theorem dX10_lookAround_46 : decode cX10_lookAround 46 = .ok (.istore 4, 2) := by decide +kernel
theorem dX10_lookAround_48 : decode cX10_lookAround 48 = .ok (.iload 4, 2) := by decide +kernel
theorem dX10_lookAround_50 : decode cX10_lookAround 50 = .ok (.iconst 4, 1) := by decide +kernel
theorem dX10_lookAround_51 : decode cX10_lookAround 51 = .ok (.if_icmp .ge 30, 3) := by decide +kernel
theorem dX10_lookAround_54 : decode cX10_lookAround 54 = .ok (.iload_n 3, 1) := by decide +kernel
theorem dX10_lookAround_55 : decode cX10_lookAround 55 = .ok (.iconst (-1), 1) := by decide +kernel
theorem dX10_lookAround_56 : decode cX10_lookAround 56 = .ok (.if_icmp .eq 25, 3) := by decide +kernel
theorem dX10_lookAround_59 : decode cX10_lookAround 59 = .ok (.aload_n 0, 1) := by decide +kernel
theorem dX10_lookAround_60 : decode cX10_lookAround 60 = .ok (.getfield 19, 3) := by decide +kernel
theorem dX10_lookAround_63 : decode cX10_lookAround 63 = .ok (.iload_n 3, 1) := by decide +kernel
theorem dX10_lookAround_64 : decode cX10_lookAround 64 = .ok (.iload 4, 2) := by decide +kernel
theorem dX10_lookAround_66 : decode cX10_lookAround 66 = .ok (.iload_n 2, 1) := by decide +kernel
theorem dX10_lookAround_67 : decode cX10_lookAround 67 = .ok (.iconst 0, 1) := by decide +kernel
theorem dX10_lookAround_68 : decode cX10_lookAround 68 = .ok (.invokevirtual 45, 3) := by decide +kernel
theorem dX10_lookAround_71 : decode cX10_lookAround 71 = .ok (.aload_n 0, 1) := by decide +kernel
theorem dX10_lookAround_72 : decode cX10_lookAround 72 = .ok (.invokevirtual 51, 3) := by decide +kernel
theorem dX10_lookAround_75 : decode cX10_lookAround 75 = .ok (.iinc 4 1, 3) := by decide +kernel
theorem dX10_lookAround_78 : decode cX10_lookAround 78 = .ok (.goto (-30), 3) := by decide +kernel
theorem dX10_lookAround_81 : decode cX10_lookAround 81 = .ok (.iinc 2 1, 3) := by decide +kernel
theorem dX10_lookAround_84 : decode cX10_lookAround 84 = .ok (.goto (-58), 3) := by decide +kernel
theorem dX10_lookAround_87 : decode cX10_lookAround 87 = .ok (.iinc 1 1, 3) := by decide +kernel
theorem dX10_lookAround_90 : decode cX10_lookAround 90 = .ok (.goto (-80), 3) := by decide +kernel
theorem dX10_lookAround_93 : decode cX10_lookAround 93 = .ok (.return_, 1) := by decide +kernel
set_option maxHeartbeats 4000000 in
set_option maxRecDepth 100000 in
theorem kX10_lookAround (l : Launch) (G : g5_G) (a0 a1 a2 a3 a4 a5 a6 a7 a8 a9 a10 a11 : Nat) (sz : Nat) : Met l yX10_lookAround (wsG yX10_lookAround cX10_lookAround 5 none) ({ frames := 1, cells := 0, slots := 0, locals := 24 }) (va_Pc [.ref a0] (g5_P G [(a0, .inr (10, [.ref a1, .ref a2, .ref a3])), (a3, .inl (G.2 1, 24, .inr (.inl (fun _ => 0)))), (a1, .inr (1, [.long 0, .int 1000, .int (-1), .int (-1), .int 0, .ref a4, .ref a5, .ref a6, .ref a7, .ref a8, .ref a9, .long 0, .ref a10])), (a6, .inr (6, [.int 5, .int 24, .ref a11, .int 0]))] sz)) (va_Qv (fun (u : va_W) => ((u = [(a0, .inr (10, [.ref a1, .ref a2, .ref a3])), (a1, .inr (1, [.long 0, .int 1000, .int (-1), .int (-1), .int 0, .ref a4, .ref a5, .ref a6, .ref a7, .ref a8, .ref a9, .long 0, .ref a10])), (a6, .inr (6, [.int 5, .int 24, .ref a11, .int 0])), (a3, .inl (G.2 1, 24, .inr (.inl (fun _ => 0))))]))) (g5_B G (va_A [(a0, .inr (10, [.ref a1, .ref a2, .ref a3])), (a3, .inl (G.2 1, 24, .inr (.inl (fun _ => 0)))), (a1, .inr (1, [.long 0, .int 1000, .int (-1), .int (-1), .int 0, .ref a4, .ref a5, .ref a6, .ref a7, .ref a8, .ref a9, .long 0, .ref a10])), (a6, .inr (6, [.int 5, .int 24, .ref a11, .int 0]))] sz)) (va_A [(a0, .inr (10, [.ref a1, .ref a2, .ref a3])), (a3, .inl (G.2 1, 24, .inr (.inl (fun _ => 0)))), (a1, .inr (1, [.long 0, .int 1000, .int (-1), .int (-1), .int 0, .ref a4, .ref a5, .ref a6, .ref a7, .ref a8, .ref a9, .long 0, .ref a10])), (a6, .inr (6, [.int 5, .int 24, .ref a11, .int 0]))] sz)) 0 0 (va_A [(a0, .inr (10, [.ref a1, .ref a2, .ref a3])), (a3, .inl (G.2 1, 24, .inr (.inl (fun _ => 0)))), (a1, .inr (1, [.long 0, .int 1000, .int (-1), .int (-1), .int 0, .ref a4, .ref a5, .ref a6, .ref a7, .ref a8, .ref a9, .long 0, .ref a10])), (a6, .inr (6, [.int 5, .int 24, .ref a11, .int 0]))] sz) := by
  refine Met.ofW (cc := cX10_lookAround) (maxL := 5) (ret := none) (by decide) rfl ?_
  intro p e s m args below meth c s₁ B hml hv
  obtain ⟨rfl, hsz, hP, hK, hD0, hN, hT⟩ := hv
  have hx := B.exec
  have hb := B.bytes
  have hr := B.returns
  have hts : ∀ w ∈ tblG, w.before _ s = true := fun w h => atoms_spec (ws := (wsG yX10_lookAround cX10_lookAround 5 none)) B.pre w (List.mem_cons_of_mem _ h)
  have hown : s.vm.findClass RX10 = some m.cls := findClass_of_methodNamed B.named
  have hlocks := B.notSynchronized
  subst hsz
  have hD := hD0.self (sz := s.heap.size)
  generalize hAe : va_A [(a0, .inr (10, [.ref a1, .ref a2, .ref a3])), (a3, .inl (G.2 1, 24, .inr (.inl (fun _ => 0)))), (a1, .inr (1, [.long 0, .int 1000, .int (-1), .int (-1), .int 0, .ref a4, .ref a5, .ref a6, .ref a7, .ref a8, .ref a9, .long 0, .ref a10])), (a6, .inr (6, [.int 5, .int 24, .ref a11, .int 0]))] s.heap.size = A at hD hT ⊢
  have hA : ∀ q : Nat, s.heap.size ≤ q → A q := fun q h => by rw [← hAe]; exact Or.inr h
  have hS : va_S A s.heap s.heap [] := va_S.rf
  have hP : va_P G.1 vwCl [(a0, .inr (10, [.ref a1, .ref a2, .ref a3])), (a3, .inl (G.2 1, 24, .inr (.inl (fun _ => 0)))), (a1, .inr (1, [.long 0, .int 1000, .int (-1), .int (-1), .int 0, .ref a4, .ref a5, .ref a6, .ref a7, .ref a8, .ref a9, .long 0, .ref a10])), (a6, .inr (6, [.int 5, .int 24, .ref a11, .int 0]))] s.heap := hP
  have hl := lv_entry ([.ref a0]) (n := 5) (Nat.le_of_ble_eq_true rfl)
  rw [lg_entry_eq]
  generalize (lg_sl ([.ref a0]) ++ List.replicate (5 - (lg_sl ([.ref a0])).length) Slot.unset).toArray = ls at hl ⊢
  have hl : lv_has ls 5 [(0, .ref a0)] := hl
  refine lv_aload_n hx hb dX10_lookAround_0 rfl (lv_at hl 0 rfl) ?_
  refine va_get (D := G.1) (ci := 10) (v := .ref a3) (C := RX10) (T := TX10) (N := 3) hx hb hts inG_X10 hown hK hP 0 rfl rfl 2 (by decide) (hts _ fl_X10_9) (fun _ h9 => h9) rfl dX10_lookAround_1 ?_
  refine lv_lconst (v := 0) hx hb dX10_lookAround_4 (by decide) ?_
  have hPc := hP.sub (ws' := [(a3, .inl (G.2 1, 24, .inr (.inl (fun _ => 0))))]) [1] rfl
  have hDc := hD.sub (ws' := [(a3, .inl (G.2 1, 24, .inr (.inl (fun _ => 0))))]) [1] (by decide) rfl
  have hFc := va_free (wc := [(a3, .inl (G.2 1, 24, .inr (.inl (fun _ => 0))))]) hD hS hA [1] rfl
  refine va_callv (va_runS (As := [.ref a3, .long 0]) (rest := []) ⟨hx, hb, hml, hown, hts⟩ (k_fillJ24 l G a3 s.heap.size (fun _ => 0)) (va_cwS 2 hts gS_X10_23 rfl rfl rfl hs_J7_fill_d0a16 ⟨Nat.le_of_ble_eq_true rfl, Nat.le_of_ble_eq_true rfl⟩) (g5_preS hPc hK hDc hN hT hS hFc) rfl rfl hl.1 rfl (lv_room (Nat.le_of_ble_eq_true rfl)) dX10_lookAround_5 ⟨Nat.le_of_ble_eq_true rfl, Nat.le_of_ble_eq_true rfl⟩) hS (fun q _ h => hFc q h) hFc (fun u t H1 locs ht hvm hw hB hz1 hk1 hS => ?_)
  obtain ⟨hP1, hD1⟩ := hB
  rw [ht] at hP1
  obtain rfl := hw
  obtain ⟨hP, hD⟩ := va_join (wr := [(a0, .inr (10, [.ref a1, .ref a2, .ref a3])), (a1, .inr (1, [.long 0, .int 1000, .int (-1), .int (-1), .int 0, .ref a4, .ref a5, .ref a6, .ref a7, .ref a8, .ref a9, .long 0, .ref a10])), (a6, .inr (6, [.int 5, .int 24, .ref a11, .int 0]))]) (w1 := [(a3, .inl (G.2 1, 24, .inr (.inl (fun _ => 0))))]) hP hD [1] [0, 2, 3] rfl rfl (by decide) (by decide) hk1 hFc hP1 hD1
  generalize H1 = H at hP hS ⊢
  have hP : va_P G.1 vwCl [(a0, .inr (10, [.ref a1, .ref a2, .ref a3])), (a1, .inr (1, [.long 0, .int 1000, .int (-1), .int (-1), .int 0, .ref a4, .ref a5, .ref a6, .ref a7, .ref a8, .ref a9, .long 0, .ref a10])), (a6, .inr (6, [.int 5, .int 24, .ref a11, .int 0])), (a3, .inl (G.2 1, 24, .inr (.inl (fun _ => 0))))] H := hP
  have hD : va_D A [(a0, .inr (10, [.ref a1, .ref a2, .ref a3])), (a1, .inr (1, [.long 0, .int 1000, .int (-1), .int (-1), .int 0, .ref a4, .ref a5, .ref a6, .ref a7, .ref a8, .ref a9, .long 0, .ref a10])), (a6, .inr (6, [.int 5, .int 24, .ref a11, .int 0])), (a3, .inl (G.2 1, 24, .inr (.inl (fun _ => 0))))] := hD
  refine lv_iconst (v := 0) hx hb dX10_lookAround_8 (by decide) ?_
  refine lv_istore_n (lv' := [(1, .int 0), (0, .ref a0)]) hx hb dX10_lookAround_9 rfl hl (by decide) rfl (fun ls hl => ?_)
  refine lv_iload_n hx hb dX10_lookAround_10 rfl (lv_at hl 0 rfl) ?_
  refine lv_aload_n hx hb dX10_lookAround_11 rfl (lv_at hl 1 rfl) ?_
  refine va_get (D := G.1) (ci := 10) (v := .ref a1) (C := RX10) (T := TX10) (N := 3) hx hb hts inG_X10 hown hK hP 0 rfl rfl 0 (by decide) (hts _ fl_X10_15) (fun _ h9 => h9) rfl dX10_lookAround_12 ?_
  refine va_get (D := G.1) (ci := 1) (v := .ref a6) (C := RX1) (T := TX1) (N := 13) hx hb hts inG_X1 hown hK hP 1 rfl rfl 7 (by decide) (hts _ fl_X10_29) (fun _ h9 => h9) rfl dX10_lookAround_15 ?_
  refine va_get (D := G.1) (ci := 6) (v := .int 0) (C := RX6) (T := TX6) (N := 4) hx hb hts inG_X6 hown hK hP 2 rfl rfl 3 (by decide) (hts _ fl_X10_35) (fun _ h9 => h9) rfl dX10_lookAround_18 ?_
  refine lv_icmp_ge (tgt := 93) hx hb dX10_lookAround_21 (by decide) (fun c_1 => ?_) (fun c_1 => ?_)
  ·
    exact W.vret hx hb hr (fun t ht hW => ⟨⟨[(a0, .inr (10, [.ref a1, .ref a2, .ref a3])), (a1, .inr (1, [.long 0, .int 1000, .int (-1), .int (-1), .int 0, .ref a4, .ref a5, .ref a6, .ref a7, .ref a8, .ref a9, .long 0, .ref a10])), (a6, .inr (6, [.int 5, .int 24, .ref a11, .int 0])), (a3, .inl (G.2 1, 24, .inr (.inl (fun _ => 0))))], rfl, rfl, by rw [ht]; exact hP, hD⟩, hS.F ht⟩) hS.2.2 dX10_lookAround_93
  ·
    exact absurd c_1 (by decide)
theorem ml_X11_254 : Cond.methodLink RX11 254 yX10_lookAround ∈ tblG := tg 913 (by decide +kernel) (by decide +kernel)
theorem im_X10_lookAround : Cond.instanceMethod yX10_lookAround ∈ tblG := tg 914 (by decide +kernel) (by decide +kernel)
theorem se_X10_lookAround : Cond.selects RX10 yX10_lookAround yX10_lookAround ∈ tblG := tg 915 (by decide +kernel) (by decide +kernel)
theorem cd_X10_lookAround : Cond.code yX10_lookAround cX10_lookAround 5 none ∈ tblG := tg 916 (by decide +kernel) (by decide +kernel)
theorem gW_X10_lookAround : GoodIn tblG (wsG yX10_lookAround cX10_lookAround 5 none) := tgi cd_X10_lookAround
theorem gV_X11_254 : GoodIn tblG (wsV RX11 254 RX10 yX10_lookAround (wsG yX10_lookAround cX10_lookAround 5 none)) := tgV ml_X11_254 im_X10_lookAround se_X10_lookAround ini_X10 gW_X10_lookAround
theorem hv_X10_lookAround : yX10_lookAround.cls = RX10 ∧ yX10_lookAround.cls ≠ "java/lang/invoke/MethodHandle" ∧ yX10_lookAround.cls ≠ "java/lang/invoke/VarHandle" ∧ (parseMethodDescriptor yX10_lookAround.desc).map (fun d => d.parameters.length) = some 0 := by decide +kernel
theorem dX11_done_0 : decode cX11_done 0 = .ok (.aload_n 0, 1) := by decide +kernel
theorem dX11_done_1 : decode cX11_done 1 = .ok (.iconst 0, 1) := by decide +kernel
theorem dX11_done_2 : decode cX11_done 2 = .ok (.putfield 94, 3) := by decide +kernel
theorem dX11_done_5 : decode cX11_done 5 = .ok (.iload_n 1, 1) := by decide +kernel
theorem dX11_done_6 : decode cX11_done 6 = .ok (.ireturn, 1) := by decide +kernel
set_option maxHeartbeats 4000000 in
set_option maxRecDepth 100000 in
theorem kX11_done (l : Launch) (G : g5_G) (a0 a1 a2 a3 a4 a5 a6 a7 a8 a9 a10 a11 a12 : Nat) (sz : Nat) : Met l yX11_done (wsG yX11_done cX11_done 2 (some .int)) ({ frames := 0, cells := 0, slots := 0, locals := 0 }) (va_Pc [.ref a0, .int 0] (g5_P G [(a0, .inr (11, [.ref a1, .ref a2, .ref a3, .ref a4, .ref a5, .ref a6, .ref a7, .ref a8, .ref a9, .ref a10, .int 0, .int 0, .int (-1), .ref a11, .int 1, .ref a12, .int 0]))] sz)) (va_Qi (fun (r : Int32) (u : va_W) => ((r = 0) ∧ (u = [(a0, .inr (11, [.ref a1, .ref a2, .ref a3, .ref a4, .ref a5, .ref a6, .ref a7, .ref a8, .ref a9, .ref a10, .int 0, .int 0, .int (-1), .ref a11, .int 1, .ref a12, .int 0]))]))) (g5_B G (va_A [(a0, .inr (11, [.ref a1, .ref a2, .ref a3, .ref a4, .ref a5, .ref a6, .ref a7, .ref a8, .ref a9, .ref a10, .int 0, .int 0, .int (-1), .ref a11, .int 1, .ref a12, .int 0]))] sz)) (va_A [(a0, .inr (11, [.ref a1, .ref a2, .ref a3, .ref a4, .ref a5, .ref a6, .ref a7, .ref a8, .ref a9, .ref a10, .int 0, .int 0, .int (-1), .ref a11, .int 1, .ref a12, .int 0]))] sz)) 0 0 (va_A [(a0, .inr (11, [.ref a1, .ref a2, .ref a3, .ref a4, .ref a5, .ref a6, .ref a7, .ref a8, .ref a9, .ref a10, .int 0, .int 0, .int (-1), .ref a11, .int 1, .ref a12, .int 0]))] sz) := by
  refine Met.ofW (cc := cX11_done) (maxL := 2) (ret := (some .int)) (by decide) rfl ?_
  intro p e s m args below meth c s₁ B hml hv
  obtain ⟨rfl, hsz, hP, hK, hD0, hN, hT⟩ := hv
  have hx := B.exec
  have hb := B.bytes
  have hr := B.returns
  have hts : ∀ w ∈ tblG, w.before _ s = true := fun w h => atoms_spec (ws := (wsG yX11_done cX11_done 2 (some .int))) B.pre w (List.mem_cons_of_mem _ h)
  have hown : s.vm.findClass RX11 = some m.cls := findClass_of_methodNamed B.named
  have hlocks := B.notSynchronized
  subst hsz
  have hD := hD0.self (sz := s.heap.size)
  generalize hAe : va_A [(a0, .inr (11, [.ref a1, .ref a2, .ref a3, .ref a4, .ref a5, .ref a6, .ref a7, .ref a8, .ref a9, .ref a10, .int 0, .int 0, .int (-1), .ref a11, .int 1, .ref a12, .int 0]))] s.heap.size = A at hD hT ⊢
  have hA : ∀ q : Nat, s.heap.size ≤ q → A q := fun q h => by rw [← hAe]; exact Or.inr h
  have hS : va_S A s.heap s.heap [] := va_S.rf
  have hP : va_P G.1 vwCl [(a0, .inr (11, [.ref a1, .ref a2, .ref a3, .ref a4, .ref a5, .ref a6, .ref a7, .ref a8, .ref a9, .ref a10, .int 0, .int 0, .int (-1), .ref a11, .int 1, .ref a12, .int 0]))] s.heap := hP
  have hl := lv_entry ([.ref a0, .int 0]) (n := 2) (Nat.le_of_ble_eq_true rfl)
  rw [lg_entry_eq]
  generalize (lg_sl ([.ref a0, .int 0]) ++ List.replicate (2 - (lg_sl ([.ref a0, .int 0])).length) Slot.unset).toArray = ls at hl ⊢
  have hl : lv_has ls 2 [(0, .ref a0), (1, .int 0)] := hl
  refine lv_aload_n hx hb dX11_done_0 rfl (lv_at hl 0 rfl) ?_
  refine lv_iconst (v := 0) hx hb dX11_done_1 (by decide) ?_
  refine va_put (D := G.1) (ci := 11) (v := .int 0) (ty := .int) (C := RX11) (T := TX11) (N := 17) hx hb hts inG_X11 tyX11 tyX11_ok nmX11 hown hK hP hD hS 0 rfl rfl 16 (by decide) (hts _ fl_X11_94) (fun _ h9 => h9) rfl (by decide +kernel) rfl rfl (Nat.le_of_ble_eq_true rfl) dX11_done_2 (fun H locs hP hD hS => ?_)
  have hP : va_P G.1 vwCl [(a0, .inr (11, [.ref a1, .ref a2, .ref a3, .ref a4, .ref a5, .ref a6, .ref a7, .ref a8, .ref a9, .ref a10, .int 0, .int 0, .int (-1), .ref a11, .int 1, .ref a12, .int 0]))] H := hP
  have hD : va_D A [(a0, .inr (11, [.ref a1, .ref a2, .ref a3, .ref a4, .ref a5, .ref a6, .ref a7, .ref a8, .ref a9, .ref a10, .int 0, .int 0, .int (-1), .ref a11, .int 1, .ref a12, .int 0]))] := hD
  refine lv_iload_n hx hb dX11_done_5 rfl (lv_at hl 1 rfl) ?_
  exact W.iret (v := 0) hx hb hr (fun t ht hW => ⟨⟨0, [(a0, .inr (11, [.ref a1, .ref a2, .ref a3, .ref a4, .ref a5, .ref a6, .ref a7, .ref a8, .ref a9, .ref a10, .int 0, .int 0, .int (-1), .ref a11, .int 1, .ref a12, .int 0]))], rfl, ⟨rfl, rfl⟩, by rw [ht]; exact hP, hD⟩, hS.F ht⟩) hS.2.2 dX11_done_6
theorem ml_X11_121 : Cond.methodLink RX11 121 yX11_done ∈ tblG := tg 527 (by decide +kernel) (by decide +kernel)
theorem im_X11_done : Cond.instanceMethod yX11_done ∈ tblG := tg 529 (by decide +kernel) (by decide +kernel)
theorem se_X11_done : Cond.selects RX11 yX11_done yX11_done ∈ tblG := tg 1 (by decide +kernel) (by decide +kernel)
theorem cd_X11_done : Cond.code yX11_done cX11_done 2 (some .int) ∈ tblG := tg 530 (by decide +kernel) (by decide +kernel)
theorem gW_X11_done : GoodIn tblG (wsG yX11_done cX11_done 2 (some .int)) := tgi cd_X11_done
theorem gV_X11_121 : GoodIn tblG (wsV RX11 121 RX11 yX11_done (wsG yX11_done cX11_done 2 (some .int))) := tgV ml_X11_121 im_X11_done se_X11_done ini_X11 gW_X11_done
theorem hv_X11_done : yX11_done.cls = RX11 ∧ yX11_done.cls ≠ "java/lang/invoke/MethodHandle" ∧ yX11_done.cls ≠ "java/lang/invoke/VarHandle" ∧ (parseMethodDescriptor yX11_done.desc).map (fun d => d.parameters.length) = some 1 := by decide +kernel
theorem fl_X11_257 : Cond.fieldLink RX11 257 "LateGlass$Watch" "boards" "[J" ∈ tblG := tg 303 (by decide +kernel) (by decide +kernel)
