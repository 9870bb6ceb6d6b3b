set_option maxHeartbeats 4000000 in
set_option maxRecDepth 100000 in
theorem k_countRows (l : Launch) (G : g5_G) (a_49 a_50 a_51 a_52 a_53 a_1 a_42 a_54 a_55 a_56 : Nat) (sz : Nat) (f_b : Nat → Int64) (f_c : Nat → Int64) (f_n : Nat → Int64) : Met l yX7_countRows (wsG yX7_countRows cX7_countRows 5 (some .long)) ({ frames := 2, cells := 0, slots := 0, locals := 49 }) (va_Pc [.ref a_49] (g5_P G [(a_49, .inr (7, [.ref a_1, .ref a_42, .ref a_50, .ref a_51, .int 0, .ref a_52, .ref a_53, .ref a_54, .ref a_55, .ref a_56])), (a_50, .inl (G.2 1, 24, .inr (.inl f_b))), (a_51, .inl (G.2 0, 1536, .inl (fun _ => 0))), (a_52, .inl (G.2 1, 2048, .inr (.inl f_c))), (a_53, .inl (G.2 1, 2048, .inr (.inl f_n)))] sz)) (va_Ql (fun (r : Int64) (u : va_W) => (∃ (o_r : Int64) (o_c : Nat → Int64) (o_n : Nat → Int64), (o_r = cntF f_b) ∧ (r = o_r) ∧ (u = [(a_49, .inr (7, [.ref a_1, .ref a_42, .ref a_50, .ref a_51, .int 0, .ref a_53, .ref a_52, .ref a_54, .ref a_55, .ref a_56])), (a_50, .inl (G.2 1, 24, .inr (.inl f_b))), (a_51, .inl (G.2 0, 1536, .inl (fun _ => 0))), (a_52, .inl (G.2 1, 2048, .inr (.inl o_c))), (a_53, .inl (G.2 1, 2048, .inr (.inl o_n)))]))) (g5_B G (va_A [(a_49, .inr (7, [.ref a_1, .ref a_42, .ref a_50, .ref a_51, .int 0, .ref a_52, .ref a_53, .ref a_54, .ref a_55, .ref a_56])), (a_50, .inl (G.2 1, 24, .inr (.inl f_b))), (a_51, .inl (G.2 0, 1536, .inl (fun _ => 0))), (a_52, .inl (G.2 1, 2048, .inr (.inl f_c))), (a_53, .inl (G.2 1, 2048, .inr (.inl f_n)))] sz)) (va_A [(a_49, .inr (7, [.ref a_1, .ref a_42, .ref a_50, .ref a_51, .int 0, .ref a_52, .ref a_53, .ref a_54, .ref a_55, .ref a_56])), (a_50, .inl (G.2 1, 24, .inr (.inl f_b))), (a_51, .inl (G.2 0, 1536, .inl (fun _ => 0))), (a_52, .inl (G.2 1, 2048, .inr (.inl f_c))), (a_53, .inl (G.2 1, 2048, .inr (.inl f_n)))] sz)) 0 0 (va_A [(a_49, .inr (7, [.ref a_1, .ref a_42, .ref a_50, .ref a_51, .int 0, .ref a_52, .ref a_53, .ref a_54, .ref a_55, .ref a_56])), (a_50, .inl (G.2 1, 24, .inr (.inl f_b))), (a_51, .inl (G.2 0, 1536, .inl (fun _ => 0))), (a_52, .inl (G.2 1, 2048, .inr (.inl f_c))), (a_53, .inl (G.2 1, 2048, .inr (.inl f_n)))] sz) := by
  refine Met.ofW (cc := cX7_countRows) (maxL := 5) (ret := (some .long)) (by decide) rfl ?_
  intro p e s m args below meth c s₁ B hml hv
  obtain ⟨rfl, hsz, hP, hK, hD0, hN, hT⟩ := hv
  have hx := B.exec
  have hb := B.bytes
  have hr := B.returns
  have hts : ∀ w ∈ tblG, w.before _ s = true := fun w h => atoms_spec (ws := (wsG yX7_countRows cX7_countRows 5 (some .long))) B.pre w (List.mem_cons_of_mem _ h)
  have hown : s.vm.findClass RX7 = some m.cls := findClass_of_methodNamed B.named
  have hlocks := B.notSynchronized
  subst hsz
  have hD := hD0.self (sz := s.heap.size)
  generalize hAe : va_A [(a_49, .inr (7, [.ref a_1, .ref a_42, .ref a_50, .ref a_51, .int 0, .ref a_52, .ref a_53, .ref a_54, .ref a_55, .ref a_56])), (a_50, .inl (G.2 1, 24, .inr (.inl f_b))), (a_51, .inl (G.2 0, 1536, .inl (fun _ => 0))), (a_52, .inl (G.2 1, 2048, .inr (.inl f_c))), (a_53, .inl (G.2 1, 2048, .inr (.inl f_n)))] s.heap.size = A at hD hT ⊢
  have hA : ∀ q : Nat, s.heap.size ≤ q → A q := fun q h => by rw [← hAe]; exact Or.inr h
  have hS : va_S A s.heap s.heap [] := va_S.rf
  have hP : va_P G.1 vwCl [(a_49, .inr (7, [.ref a_1, .ref a_42, .ref a_50, .ref a_51, .int 0, .ref a_52, .ref a_53, .ref a_54, .ref a_55, .ref a_56])), (a_50, .inl (G.2 1, 24, .inr (.inl f_b))), (a_51, .inl (G.2 0, 1536, .inl (fun _ => 0))), (a_52, .inl (G.2 1, 2048, .inr (.inl f_c))), (a_53, .inl (G.2 1, 2048, .inr (.inl f_n)))] s.heap := hP
  have hl := lv_entry ([.ref a_49]) (n := 5) (Nat.le_of_ble_eq_true rfl)
  rw [lg_entry_eq]
  generalize (lg_sl ([.ref a_49]) ++ List.replicate (5 - (lg_sl ([.ref a_49])).length) Slot.unset).toArray = ls at hl ⊢
  have hl : lv_has ls 5 [(0, .ref a_49)] := hl
  refine lv_aload_n hx hb dX7_countRows_0 rfl (lv_at hl 0 rfl) ?_
  refine va_get (D := G.1) (ci := 7) (v := .int 0) (C := RX7) (T := TX7) (N := 10) hx hb hts inG_X7 hown hK hP 0 rfl rfl 4 (by decide) (hts _ fl_X7_89) (fun _ h9 => h9) rfl dX7_countRows_1 ?_
  refine lv_iconst (v := 1) hx hb dX7_countRows_4 (by decide) ?_
  refine lv_iadd hx hb dX7_countRows_5 ?_
  refine g5_ti (v := 1) (by decide) ?_
  refine lv_istore_n (lv' := [(1, .int 1), (0, .ref a_49)]) hx hb dX7_countRows_6 rfl hl (by decide) rfl (fun ls hl => ?_)
  refine lv_aload_n hx hb dX7_countRows_7 rfl (lv_at hl 1 rfl) ?_
  refine va_get (D := G.1) (ci := 7) (v := .ref a_52) (C := RX7) (T := TX7) (N := 10) hx hb hts inG_X7 hown hK hP 0 rfl rfl 5 (by decide) (hts _ fl_X7_19) (fun _ h9 => h9) rfl dX7_countRows_8 ?_
  refine lv_lconst (v := 0) hx hb dX7_countRows_11 (by decide) ?_
  have hPc := hP.sub (ws' := [(a_52, .inl (G.2 1, 2048, .inr (.inl f_c)))]) [3] rfl
  have hDc := hD.sub (ws' := [(a_52, .inl (G.2 1, 2048, .inr (.inl f_c)))]) [3] (by decide) rfl
  have hFc := va_free (wc := [(a_52, .inl (G.2 1, 2048, .inr (.inl f_c)))]) hD hS hA [3] rfl
  refine va_callv (va_runS (As := [.ref a_52, .long 0]) (rest := []) ⟨hx, hb, hml, hown, hts⟩ (k_fillJ2048 l G a_52 s.heap.size f_c) (va_cwS 2 hts gS_X7_58 rfl rfl rfl hs_J7_fill_d0a16 ⟨Nat.le_of_ble_eq_true rfl, Nat.le_of_ble_eq_true rfl⟩) (g5_preS hPc hK hDc hN hT hS hFc) rfl rfl hl.1 rfl (lv_room (Nat.le_of_ble_eq_true rfl)) dX7_countRows_12 ⟨Nat.le_of_ble_eq_true rfl, Nat.le_of_ble_eq_true rfl⟩) hS (fun q _ h => hFc q h) hFc (fun u t H1 locs ht hvm hw hB hz1 hk1 hS => ?_)
  obtain ⟨hP1, hD1⟩ := hB
  rw [ht] at hP1
  obtain rfl := hw
  obtain ⟨hP, hD⟩ := va_join (wr := [(a_49, .inr (7, [.ref a_1, .ref a_42, .ref a_50, .ref a_51, .int 0, .ref a_52, .ref a_53, .ref a_54, .ref a_55, .ref a_56])), (a_50, .inl (G.2 1, 24, .inr (.inl f_b))), (a_51, .inl (G.2 0, 1536, .inl (fun _ => 0))), (a_53, .inl (G.2 1, 2048, .inr (.inl f_n)))]) (w1 := [(a_52, .inl (G.2 1, 2048, .inr (.inl (fun _ => 0))))]) hP hD [3] [0, 1, 2, 4] rfl rfl (by decide) (by decide) hk1 hFc hP1 hD1
  generalize H1 = H at hP hS ⊢
  have hP : va_P G.1 vwCl [(a_49, .inr (7, [.ref a_1, .ref a_42, .ref a_50, .ref a_51, .int 0, .ref a_52, .ref a_53, .ref a_54, .ref a_55, .ref a_56])), (a_50, .inl (G.2 1, 24, .inr (.inl f_b))), (a_51, .inl (G.2 0, 1536, .inl (fun _ => 0))), (a_53, .inl (G.2 1, 2048, .inr (.inl f_n))), (a_52, .inl (G.2 1, 2048, .inr (.inl (fun _ => 0))))] H := hP
  have hD : va_D A [(a_49, .inr (7, [.ref a_1, .ref a_42, .ref a_50, .ref a_51, .int 0, .ref a_52, .ref a_53, .ref a_54, .ref a_55, .ref a_56])), (a_50, .inl (G.2 1, 24, .inr (.inl f_b))), (a_51, .inl (G.2 0, 1536, .inl (fun _ => 0))), (a_53, .inl (G.2 1, 2048, .inr (.inl f_n))), (a_52, .inl (G.2 1, 2048, .inr (.inl (fun _ => 0))))] := hD
  refine lv_iconst (v := 0) hx hb dX7_countRows_15 (by decide) ?_
  refine lv_istore_n (lv' := [(2, .int 0), (1, .int 1), (0, .ref a_49)]) hx hb dX7_countRows_16 rfl hl (by decide) rfl (fun ls hl => ?_)
  refine g5_loop (α := (Int32) × (Nat → Int64)) (fun (q : (Int32) × (Nat → Int64)) (ls : Array Slot) (H : Heap) (locs : List Loc) => match q with | (k_c, k_f) => lv_has ls 5 [(2, .int k_c), (1, .int 1), (0, .ref a_49)] ∧ va_P G.1 vwCl [(a_49, .inr (7, [.ref a_1, .ref a_42, .ref a_50, .ref a_51, .int 0, .ref a_52, .ref a_53, .ref a_54, .ref a_55, .ref a_56])), (a_50, .inl (G.2 1, 24, .inr (.inl f_b))), (a_51, .inl (G.2 0, 1536, .inl (fun _ => 0))), (a_53, .inl (G.2 1, 2048, .inr (.inl f_n))), (a_52, .inl (G.2 1, 2048, .inr (.inl k_f)))] H ∧ va_D A [(a_49, .inr (7, [.ref a_1, .ref a_42, .ref a_50, .ref a_51, .int 0, .ref a_52, .ref a_53, .ref a_54, .ref a_55, .ref a_56])), (a_50, .inl (G.2 1, 24, .inr (.inl f_b))), (a_51, .inl (G.2 0, 1536, .inl (fun _ => 0))), (a_53, .inl (G.2 1, 2048, .inr (.inl f_n))), (a_52, .inl (G.2 1, 2048, .inr (.inl k_f)))] ∧ va_S A s.heap H locs ∧ (0 ≤ k_c.toInt ∧ k_c.toInt ≤ 64) ∧ (∀ j : Nat, (j : Int) < k_c.toInt → k_f j = iniF (f_b 0) j)) (fun (q : (Int32) × (Nat → Int64)) => match q with | (k_c, k_f) => Int.toNat (64 - k_c.toInt)) (0, (fun _ => 0)) ⟨lv_sub hl [0, 1, 2] rfl, hP, hD, hS, ⟨by decide, by decide⟩, fun j h => absurd h (by have z : (0 : Int32).toInt = 0 := (by decide); omega)⟩ ?_
  rintro ⟨k_c, k_f⟩ ls H locs ⟨hl, hP, hD, hS, i_1, i_2⟩ ih_17_3
  have hl : lv_has ls 5 [(2, .int k_c), (1, .int 1), (0, .ref a_49)] := hl
  have i_1 : 0 ≤ k_c.toInt ∧ k_c.toInt ≤ 64 := i_1
  have i_2 : ∀ j : Nat, (j : Int) < k_c.toInt → k_f j = iniF (f_b 0) j := i_2
  have hP : va_P G.1 vwCl [(a_49, .inr (7, [.ref a_1, .ref a_42, .ref a_50, .ref a_51, .int 0, .ref a_52, .ref a_53, .ref a_54, .ref a_55, .ref a_56])), (a_50, .inl (G.2 1, 24, .inr (.inl f_b))), (a_51, .inl (G.2 0, 1536, .inl (fun _ => 0))), (a_53, .inl (G.2 1, 2048, .inr (.inl f_n))), (a_52, .inl (G.2 1, 2048, .inr (.inl k_f)))] H := hP
  have hD : va_D A [(a_49, .inr (7, [.ref a_1, .ref a_42, .ref a_50, .ref a_51, .int 0, .ref a_52, .ref a_53, .ref a_54, .ref a_55, .ref a_56])), (a_50, .inl (G.2 1, 24, .inr (.inl f_b))), (a_51, .inl (G.2 0, 1536, .inl (fun _ => 0))), (a_53, .inl (G.2 1, 2048, .inr (.inl f_n))), (a_52, .inl (G.2 1, 2048, .inr (.inl k_f)))] := hD
  refine lv_iload_n hx hb dX7_countRows_17 rfl (lv_at hl 0 rfl) ?_
  refine lv_bipush (v := 64) hx hb dX7_countRows_18 (by decide) ?_
  refine lv_icmp_ge (tgt := 62) hx hb dX7_countRows_20 (by decide) (fun c_4 => ?_) (fun c_4 => ?_)
  ·
    have i_4 : k_c.toInt ≥ 64 := by have z := g5_ge (a := k_c.toInt) (b := 64) (by rfl) (by decide) c_4; omega
    have hi0 : ∀ j : Nat, j < 64 → k_f j = itF f_b 0 j := fun j h => i_2 j (by omega)
    refine lv_iconst (v := 1) hx hb dX7_countRows_62 (by decide) ?_
    refine lv_istore_n (lv' := [(2, .int 1), (1, .int 1), (0, .ref a_49)]) hx hb dX7_countRows_63 rfl hl (by decide) rfl (fun ls hl => ?_)
    refine lv_iload_n hx hb dX7_countRows_64 rfl (lv_at hl 0 rfl) ?_
    refine lv_bipush (v := 24) hx hb dX7_countRows_65 (by decide) ?_
    refine lv_icmp_ge (tgt := 81) hx hb dX7_countRows_67 (by decide) (fun c_5 => ?_) (fun c_5 => ?_)
    ·
      exact absurd c_5 (by decide)
    ·
      refine lv_aload_n hx hb dX7_countRows_70 rfl (lv_at hl 2 rfl) ?_
      refine lv_iload_n hx hb dX7_countRows_71 rfl (lv_at hl 0 rfl) ?_
      have hPc := hP.sub (ws' := [(a_49, .inr (7, [.ref a_1, .ref a_42, .ref a_50, .ref a_51, .int 0, .ref a_52, .ref a_53, .ref a_54, .ref a_55, .ref a_56])), (a_50, .inl (G.2 1, 24, .inr (.inl f_b))), (a_51, .inl (G.2 0, 1536, .inl (fun _ => 0))), (a_52, .inl (G.2 1, 2048, .inr (.inl k_f))), (a_53, .inl (G.2 1, 2048, .inr (.inl f_n)))]) [0, 1, 2, 4, 3] rfl
      have hDc := hD.sub (ws' := [(a_49, .inr (7, [.ref a_1, .ref a_42, .ref a_50, .ref a_51, .int 0, .ref a_52, .ref a_53, .ref a_54, .ref a_55, .ref a_56])), (a_50, .inl (G.2 1, 24, .inr (.inl f_b))), (a_51, .inl (G.2 0, 1536, .inl (fun _ => 0))), (a_52, .inl (G.2 1, 2048, .inr (.inl k_f))), (a_53, .inl (G.2 1, 2048, .inr (.inl f_n)))]) [0, 1, 2, 4, 3] (by decide) rfl
      have hFc := va_free (wc := [(a_49, .inr (7, [.ref a_1, .ref a_42, .ref a_50, .ref a_51, .int 0, .ref a_52, .ref a_53, .ref a_54, .ref a_55, .ref a_56])), (a_50, .inl (G.2 1, 24, .inr (.inl f_b))), (a_51, .inl (G.2 0, 1536, .inl (fun _ => 0))), (a_52, .inl (G.2 1, 2048, .inr (.inl k_f))), (a_53, .inl (G.2 1, 2048, .inr (.inl f_n)))]) hD hS hA [0, 1, 2, 4, 3] rfl
      refine va_callv (va_runV (As := [.int 1]) (rest := []) ⟨hx, hb, hml, hown, hts⟩ (k_stepTo l G a_49 a_50 a_51 a_52 a_53 a_1 a_42 a_54 a_55 a_56 H.size 1 f_b k_f f_n 0 1 ⟨by decide, by decide⟩ (by decide) (rfl) (hi0)) (cwV 1 hts gV_X7_102 rfl rfl rfl hv_X7_stepTo ⟨Nat.le_of_ble_eq_true rfl, Nat.le_of_ble_eq_true rfl⟩) (g5_preV hPc hK hDc hN hT hS hFc (ci := 7) (q0 := 0) rfl rfl) rfl rfl hl.1 rfl (lv_room (Nat.le_of_ble_eq_true rfl)) dX7_countRows_72 ⟨Nat.le_of_ble_eq_true rfl, Nat.le_of_ble_eq_true rfl⟩) hS (fun q _ h => hFc q h) hFc (fun u t H1 locs ht hvm hw hB hz1 hk1 hS => ?_)
      obtain ⟨hP1, hD1⟩ := hB
      rw [ht] at hP1
      obtain ⟨z7, i_6, rfl⟩ := hw
      have i_6 : ∀ j : Nat, j < 64 → z7 j = itF f_b 1 j := i_6
      obtain ⟨hP, hD⟩ := va_join (wr := []) (w1 := [(a_49, .inr (7, [.ref a_1, .ref a_42, .ref a_50, .ref a_51, .int 0, .ref a_53, .ref a_52, .ref a_54, .ref a_55, .ref a_56])), (a_50, .inl (G.2 1, 24, .inr (.inl f_b))), (a_51, .inl (G.2 0, 1536, .inl (fun _ => 0))), (a_53, .inl (G.2 1, 2048, .inr (.inl z7))), (a_52, .inl (G.2 1, 2048, .inr (.inl k_f)))]) hP hD [0, 1, 2, 4, 3] [] rfl rfl (by decide) (by decide) hk1 hFc hP1 hD1
      generalize H1 = H at hP hS ⊢
      have hP : va_P G.1 vwCl [(a_49, .inr (7, [.ref a_1, .ref a_42, .ref a_50, .ref a_51, .int 0, .ref a_53, .ref a_52, .ref a_54, .ref a_55, .ref a_56])), (a_50, .inl (G.2 1, 24, .inr (.inl f_b))), (a_51, .inl (G.2 0, 1536, .inl (fun _ => 0))), (a_53, .inl (G.2 1, 2048, .inr (.inl z7))), (a_52, .inl (G.2 1, 2048, .inr (.inl k_f)))] H := hP
      have hD : va_D A [(a_49, .inr (7, [.ref a_1, .ref a_42, .ref a_50, .ref a_51, .int 0, .ref a_53, .ref a_52, .ref a_54, .ref a_55, .ref a_56])), (a_50, .inl (G.2 1, 24, .inr (.inl f_b))), (a_51, .inl (G.2 0, 1536, .inl (fun _ => 0))), (a_53, .inl (G.2 1, 2048, .inr (.inl z7))), (a_52, .inl (G.2 1, 2048, .inr (.inl k_f)))] := hD
      refine lv_iinc (v := 2) (lv' := [(2, .int 2), (1, .int 1), (0, .ref a_49)]) hx hb dX7_countRows_75 hl (k := 0) rfl (by decide) (by decide) rfl (fun ls hl => ?_)
      refine lv_goto (tgt := 64) hx hb dX7_countRows_78 (by decide) ?_
      refine lv_iload_n hx hb dX7_countRows_64 rfl (lv_at hl 0 rfl) ?_
      refine lv_bipush (v := 24) hx hb dX7_countRows_65 (by decide) ?_
      refine lv_icmp_ge (tgt := 81) hx hb dX7_countRows_67 (by decide) (fun c_8 => ?_) (fun c_8 => ?_)
      ·
        exact absurd c_8 (by decide)
      ·
        refine lv_aload_n hx hb dX7_countRows_70 rfl (lv_at hl 2 rfl) ?_
        refine lv_iload_n hx hb dX7_countRows_71 rfl (lv_at hl 0 rfl) ?_
        have hPc := hP.sub (ws' := [(a_49, .inr (7, [.ref a_1, .ref a_42, .ref a_50, .ref a_51, .int 0, .ref a_53, .ref a_52, .ref a_54, .ref a_55, .ref a_56])), (a_50, .inl (G.2 1, 24, .inr (.inl f_b))), (a_51, .inl (G.2 0, 1536, .inl (fun _ => 0))), (a_53, .inl (G.2 1, 2048, .inr (.inl z7))), (a_52, .inl (G.2 1, 2048, .inr (.inl k_f)))]) [0, 1, 2, 3, 4] rfl
        have hDc := hD.sub (ws' := [(a_49, .inr (7, [.ref a_1, .ref a_42, .ref a_50, .ref a_51, .int 0, .ref a_53, .ref a_52, .ref a_54, .ref a_55, .ref a_56])), (a_50, .inl (G.2 1, 24, .inr (.inl f_b))), (a_51, .inl (G.2 0, 1536, .inl (fun _ => 0))), (a_53, .inl (G.2 1, 2048, .inr (.inl z7))), (a_52, .inl (G.2 1, 2048, .inr (.inl k_f)))]) [0, 1, 2, 3, 4] (by decide) rfl
        have hFc := va_free (wc := [(a_49, .inr (7, [.ref a_1, .ref a_42, .ref a_50, .ref a_51, .int 0, .ref a_53, .ref a_52, .ref a_54, .ref a_55, .ref a_56])), (a_50, .inl (G.2 1, 24, .inr (.inl f_b))), (a_51, .inl (G.2 0, 1536, .inl (fun _ => 0))), (a_53, .inl (G.2 1, 2048, .inr (.inl z7))), (a_52, .inl (G.2 1, 2048, .inr (.inl k_f)))]) hD hS hA [0, 1, 2, 3, 4] rfl
        refine va_callv (va_runV (As := [.int 2]) (rest := []) ⟨hx, hb, hml, hown, hts⟩ (k_stepTo l G a_49 a_50 a_51 a_53 a_52 a_1 a_42 a_54 a_55 a_56 H.size 2 f_b z7 k_f 1 2 ⟨by decide, by decide⟩ (by decide) (rfl) (i_6)) (cwV 1 hts gV_X7_102 rfl rfl rfl hv_X7_stepTo ⟨Nat.le_of_ble_eq_true rfl, Nat.le_of_ble_eq_true rfl⟩) (g5_preV hPc hK hDc hN hT hS hFc (ci := 7) (q0 := 0) rfl rfl) rfl rfl hl.1 rfl (lv_room (Nat.le_of_ble_eq_true rfl)) dX7_countRows_72 ⟨Nat.le_of_ble_eq_true rfl, Nat.le_of_ble_eq_true rfl⟩) hS (fun q _ h => hFc q h) hFc (fun u t H1 locs ht hvm hw hB hz1 hk1 hS => ?_)
        obtain ⟨hP1, hD1⟩ := hB
        rw [ht] at hP1
        obtain ⟨z10, i_9, rfl⟩ := hw
        have i_9 : ∀ j : Nat, j < 64 → z10 j = itF f_b 2 j := i_9
        obtain ⟨hP, hD⟩ := va_join (wr := []) (w1 := [(a_49, .inr (7, [.ref a_1, .ref a_42, .ref a_50, .ref a_51, .int 0, .ref a_52, .ref a_53, .ref a_54, .ref a_55, .ref a_56])), (a_50, .inl (G.2 1, 24, .inr (.inl f_b))), (a_51, .inl (G.2 0, 1536, .inl (fun _ => 0))), (a_52, .inl (G.2 1, 2048, .inr (.inl z10))), (a_53, .inl (G.2 1, 2048, .inr (.inl z7)))]) hP hD [0, 1, 2, 3, 4] [] rfl rfl (by decide) (by decide) hk1 hFc hP1 hD1
        generalize H1 = H at hP hS ⊢
        have hP : va_P G.1 vwCl [(a_49, .inr (7, [.ref a_1, .ref a_42, .ref a_50, .ref a_51, .int 0, .ref a_52, .ref a_53, .ref a_54, .ref a_55, .ref a_56])), (a_50, .inl (G.2 1, 24, .inr (.inl f_b))), (a_51, .inl (G.2 0, 1536, .inl (fun _ => 0))), (a_52, .inl (G.2 1, 2048, .inr (.inl z10))), (a_53, .inl (G.2 1, 2048, .inr (.inl z7)))] H := hP
        have hD : va_D A [(a_49, .inr (7, [.ref a_1, .ref a_42, .ref a_50, .ref a_51, .int 0, .ref a_52, .ref a_53, .ref a_54, .ref a_55, .ref a_56])), (a_50, .inl (G.2 1, 24, .inr (.inl f_b))), (a_51, .inl (G.2 0, 1536, .inl (fun _ => 0))), (a_52, .inl (G.2 1, 2048, .inr (.inl z10))), (a_53, .inl (G.2 1, 2048, .inr (.inl z7)))] := hD
        refine lv_iinc (v := 3) (lv' := [(2, .int 3), (1, .int 1), (0, .ref a_49)]) hx hb dX7_countRows_75 hl (k := 0) rfl (by decide) (by decide) rfl (fun ls hl => ?_)
        refine lv_goto (tgt := 64) hx hb dX7_countRows_78 (by decide) ?_
        refine lv_iload_n hx hb dX7_countRows_64 rfl (lv_at hl 0 rfl) ?_
        refine lv_bipush (v := 24) hx hb dX7_countRows_65 (by decide) ?_
        refine lv_icmp_ge (tgt := 81) hx hb dX7_countRows_67 (by decide) (fun c_11 => ?_) (fun c_11 => ?_)
        ·
          exact absurd c_11 (by decide)
        ·
          refine lv_aload_n hx hb dX7_countRows_70 rfl (lv_at hl 2 rfl) ?_
          refine lv_iload_n hx hb dX7_countRows_71 rfl (lv_at hl 0 rfl) ?_
          have hPc := hP.sub (ws' := [(a_49, .inr (7, [.ref a_1, .ref a_42, .ref a_50, .ref a_51, .int 0, .ref a_52, .ref a_53, .ref a_54, .ref a_55, .ref a_56])), (a_50, .inl (G.2 1, 24, .inr (.inl f_b))), (a_51, .inl (G.2 0, 1536, .inl (fun _ => 0))), (a_52, .inl (G.2 1, 2048, .inr (.inl z10))), (a_53, .inl (G.2 1, 2048, .inr (.inl z7)))]) [0, 1, 2, 3, 4] rfl
          have hDc := hD.sub (ws' := [(a_49, .inr (7, [.ref a_1, .ref a_42, .ref a_50, .ref a_51, .int 0, .ref a_52, .ref a_53, .ref a_54, .ref a_55, .ref a_56])), (a_50, .inl (G.2 1, 24, .inr (.inl f_b))), (a_51, .inl (G.2 0, 1536, .inl (fun _ => 0))), (a_52, .inl (G.2 1, 2048, .inr (.inl z10))), (a_53, .inl (G.2 1, 2048, .inr (.inl z7)))]) [0, 1, 2, 3, 4] (by decide) rfl
          have hFc := va_free (wc := [(a_49, .inr (7, [.ref a_1, .ref a_42, .ref a_50, .ref a_51, .int 0, .ref a_52, .ref a_53, .ref a_54, .ref a_55, .ref a_56])), (a_50, .inl (G.2 1, 24, .inr (.inl f_b))), (a_51, .inl (G.2 0, 1536, .inl (fun _ => 0))), (a_52, .inl (G.2 1, 2048, .inr (.inl z10))), (a_53, .inl (G.2 1, 2048, .inr (.inl z7)))]) hD hS hA [0, 1, 2, 3, 4] rfl
          refine va_callv (va_runV (As := [.int 3]) (rest := []) ⟨hx, hb, hml, hown, hts⟩ (k_stepTo l G a_49 a_50 a_51 a_52 a_53 a_1 a_42 a_54 a_55 a_56 H.size 3 f_b z10 z7 2 3 ⟨by decide, by decide⟩ (by decide) (rfl) (i_9)) (cwV 1 hts gV_X7_102 rfl rfl rfl hv_X7_stepTo ⟨Nat.le_of_ble_eq_true rfl, Nat.le_of_ble_eq_true rfl⟩) (g5_preV hPc hK hDc hN hT hS hFc (ci := 7) (q0 := 0) rfl rfl) rfl rfl hl.1 rfl (lv_room (Nat.le_of_ble_eq_true rfl)) dX7_countRows_72 ⟨Nat.le_of_ble_eq_true rfl, Nat.le_of_ble_eq_true rfl⟩) hS (fun q _ h => hFc q h) hFc (fun u t H1 locs ht hvm hw hB hz1 hk1 hS => ?_)
          obtain ⟨hP1, hD1⟩ := hB
          rw [ht] at hP1
          obtain ⟨z13, i_12, rfl⟩ := hw
          have i_12 : ∀ j : Nat, j < 64 → z13 j = itF f_b 3 j := i_12
          obtain ⟨hP, hD⟩ := va_join (wr := []) (w1 := [(a_49, .inr (7, [.ref a_1, .ref a_42, .ref a_50, .ref a_51, .int 0, .ref a_53, .ref a_52, .ref a_54, .ref a_55, .ref a_56])), (a_50, .inl (G.2 1, 24, .inr (.inl f_b))), (a_51, .inl (G.2 0, 1536, .inl (fun _ => 0))), (a_53, .inl (G.2 1, 2048, .inr (.inl z13))), (a_52, .inl (G.2 1, 2048, .inr (.inl z10)))]) hP hD [0, 1, 2, 3, 4] [] rfl rfl (by decide) (by decide) hk1 hFc hP1 hD1
          generalize H1 = H at hP hS ⊢
          have hP : va_P G.1 vwCl [(a_49, .inr (7, [.ref a_1, .ref a_42, .ref a_50, .ref a_51, .int 0, .ref a_53, .ref a_52, .ref a_54, .ref a_55, .ref a_56])), (a_50, .inl (G.2 1, 24, .inr (.inl f_b))), (a_51, .inl (G.2 0, 1536, .inl (fun _ => 0))), (a_53, .inl (G.2 1, 2048, .inr (.inl z13))), (a_52, .inl (G.2 1, 2048, .inr (.inl z10)))] H := hP
          have hD : va_D A [(a_49, .inr (7, [.ref a_1, .ref a_42, .ref a_50, .ref a_51, .int 0, .ref a_53, .ref a_52, .ref a_54, .ref a_55, .ref a_56])), (a_50, .inl (G.2 1, 24, .inr (.inl f_b))), (a_51, .inl (G.2 0, 1536, .inl (fun _ => 0))), (a_53, .inl (G.2 1, 2048, .inr (.inl z13))), (a_52, .inl (G.2 1, 2048, .inr (.inl z10)))] := hD
          refine lv_iinc (v := 4) (lv' := [(2, .int 4), (1, .int 1), (0, .ref a_49)]) hx hb dX7_countRows_75 hl (k := 0) rfl (by decide) (by decide) rfl (fun ls hl => ?_)
          refine lv_goto (tgt := 64) hx hb dX7_countRows_78 (by decide) ?_
          refine lv_iload_n hx hb dX7_countRows_64 rfl (lv_at hl 0 rfl) ?_
          refine lv_bipush (v := 24) hx hb dX7_countRows_65 (by decide) ?_
          refine lv_icmp_ge (tgt := 81) hx hb dX7_countRows_67 (by decide) (fun c_14 => ?_) (fun c_14 => ?_)
          ·
            exact absurd c_14 (by decide)
          ·
            refine lv_aload_n hx hb dX7_countRows_70 rfl (lv_at hl 2 rfl) ?_
            refine lv_iload_n hx hb dX7_countRows_71 rfl (lv_at hl 0 rfl) ?_
            have hPc := hP.sub (ws' := [(a_49, .inr (7, [.ref a_1, .ref a_42, .ref a_50, .ref a_51, .int 0, .ref a_53, .ref a_52, .ref a_54, .ref a_55, .ref a_56])), (a_50, .inl (G.2 1, 24, .inr (.inl f_b))), (a_51, .inl (G.2 0, 1536, .inl (fun _ => 0))), (a_53, .inl (G.2 1, 2048, .inr (.inl z13))), (a_52, .inl (G.2 1, 2048, .inr (.inl z10)))]) [0, 1, 2, 3, 4] rfl
            have hDc := hD.sub (ws' := [(a_49, .inr (7, [.ref a_1, .ref a_42, .ref a_50, .ref a_51, .int 0, .ref a_53, .ref a_52, .ref a_54, .ref a_55, .ref a_56])), (a_50, .inl (G.2 1, 24, .inr (.inl f_b))), (a_51, .inl (G.2 0, 1536, .inl (fun _ => 0))), (a_53, .inl (G.2 1, 2048, .inr (.inl z13))), (a_52, .inl (G.2 1, 2048, .inr (.inl z10)))]) [0, 1, 2, 3, 4] (by decide) rfl
            have hFc := va_free (wc := [(a_49, .inr (7, [.ref a_1, .ref a_42, .ref a_50, .ref a_51, .int 0, .ref a_53, .ref a_52, .ref a_54, .ref a_55, .ref a_56])), (a_50, .inl (G.2 1, 24, .inr (.inl f_b))), (a_51, .inl (G.2 0, 1536, .inl (fun _ => 0))), (a_53, .inl (G.2 1, 2048, .inr (.inl z13))), (a_52, .inl (G.2 1, 2048, .inr (.inl z10)))]) hD hS hA [0, 1, 2, 3, 4] rfl
            refine va_callv (va_runV (As := [.int 4]) (rest := []) ⟨hx, hb, hml, hown, hts⟩ (k_stepTo l G a_49 a_50 a_51 a_53 a_52 a_1 a_42 a_54 a_55 a_56 H.size 4 f_b z13 z10 3 4 ⟨by decide, by decide⟩ (by decide) (rfl) (i_12)) (cwV 1 hts gV_X7_102 rfl rfl rfl hv_X7_stepTo ⟨Nat.le_of_ble_eq_true rfl, Nat.le_of_ble_eq_true rfl⟩) (g5_preV hPc hK hDc hN hT hS hFc (ci := 7) (q0 := 0) rfl rfl) rfl rfl hl.1 rfl (lv_room (Nat.le_of_ble_eq_true rfl)) dX7_countRows_72 ⟨Nat.le_of_ble_eq_true rfl, Nat.le_of_ble_eq_true rfl⟩) hS (fun q _ h => hFc q h) hFc (fun u t H1 locs ht hvm hw hB hz1 hk1 hS => ?_)
            obtain ⟨hP1, hD1⟩ := hB
            rw [ht] at hP1
            obtain ⟨z16, i_15, rfl⟩ := hw
            have i_15 : ∀ j : Nat, j < 64 → z16 j = itF f_b 4 j := i_15
            obtain ⟨hP, hD⟩ := va_join (wr := []) (w1 := [(a_49, .inr (7, [.ref a_1, .ref a_42, .ref a_50, .ref a_51, .int 0, .ref a_52, .ref a_53, .ref a_54, .ref a_55, .ref a_56])), (a_50, .inl (G.2 1, 24, .inr (.inl f_b))), (a_51, .inl (G.2 0, 1536, .inl (fun _ => 0))), (a_52, .inl (G.2 1, 2048, .inr (.inl z16))), (a_53, .inl (G.2 1, 2048, .inr (.inl z13)))]) hP hD [0, 1, 2, 3, 4] [] rfl rfl (by decide) (by decide) hk1 hFc hP1 hD1
            generalize H1 = H at hP hS ⊢
            have hP : va_P G.1 vwCl [(a_49, .inr (7, [.ref a_1, .ref a_42, .ref a_50, .ref a_51, .int 0, .ref a_52, .ref a_53, .ref a_54, .ref a_55, .ref a_56])), (a_50, .inl (G.2 1, 24, .inr (.inl f_b))), (a_51, .inl (G.2 0, 1536, .inl (fun _ => 0))), (a_52, .inl (G.2 1, 2048, .inr (.inl z16))), (a_53, .inl (G.2 1, 2048, .inr (.inl z13)))] H := hP
            have hD : va_D A [(a_49, .inr (7, [.ref a_1, .ref a_42, .ref a_50, .ref a_51, .int 0, .ref a_52, .ref a_53, .ref a_54, .ref a_55, .ref a_56])), (a_50, .inl (G.2 1, 24, .inr (.inl f_b))), (a_51, .inl (G.2 0, 1536, .inl (fun _ => 0))), (a_52, .inl (G.2 1, 2048, .inr (.inl z16))), (a_53, .inl (G.2 1, 2048, .inr (.inl z13)))] := hD
            refine lv_iinc (v := 5) (lv' := [(2, .int 5), (1, .int 1), (0, .ref a_49)]) hx hb dX7_countRows_75 hl (k := 0) rfl (by decide) (by decide) rfl (fun ls hl => ?_)
            refine lv_goto (tgt := 64) hx hb dX7_countRows_78 (by decide) ?_
            refine lv_iload_n hx hb dX7_countRows_64 rfl (lv_at hl 0 rfl) ?_
            refine lv_bipush (v := 24) hx hb dX7_countRows_65 (by decide) ?_
            refine lv_icmp_ge (tgt := 81) hx hb dX7_countRows_67 (by decide) (fun c_17 => ?_) (fun c_17 => ?_)
            ·
              exact absurd c_17 (by decide)
            ·
              refine lv_aload_n hx hb dX7_countRows_70 rfl (lv_at hl 2 rfl) ?_
              refine lv_iload_n hx hb dX7_countRows_71 rfl (lv_at hl 0 rfl) ?_
              have hPc := hP.sub (ws' := [(a_49, .inr (7, [.ref a_1, .ref a_42, .ref a_50, .ref a_51, .int 0, .ref a_52, .ref a_53, .ref a_54, .ref a_55, .ref a_56])), (a_50, .inl (G.2 1, 24, .inr (.inl f_b))), (a_51, .inl (G.2 0, 1536, .inl (fun _ => 0))), (a_52, .inl (G.2 1, 2048, .inr (.inl z16))), (a_53, .inl (G.2 1, 2048, .inr (.inl z13)))]) [0, 1, 2, 3, 4] rfl
              have hDc := hD.sub (ws' := [(a_49, .inr (7, [.ref a_1, .ref a_42, .ref a_50, .ref a_51, .int 0, .ref a_52, .ref a_53, .ref a_54, .ref a_55, .ref a_56])), (a_50, .inl (G.2 1, 24, .inr (.inl f_b))), (a_51, .inl (G.2 0, 1536, .inl (fun _ => 0))), (a_52, .inl (G.2 1, 2048, .inr (.inl z16))), (a_53, .inl (G.2 1, 2048, .inr (.inl z13)))]) [0, 1, 2, 3, 4] (by decide) rfl
              have hFc := va_free (wc := [(a_49, .inr (7, [.ref a_1, .ref a_42, .ref a_50, .ref a_51, .int 0, .ref a_52, .ref a_53, .ref a_54, .ref a_55, .ref a_56])), (a_50, .inl (G.2 1, 24, .inr (.inl f_b))), (a_51, .inl (G.2 0, 1536, .inl (fun _ => 0))), (a_52, .inl (G.2 1, 2048, .inr (.inl z16))), (a_53, .inl (G.2 1, 2048, .inr (.inl z13)))]) hD hS hA [0, 1, 2, 3, 4] rfl
              refine va_callv (va_runV (As := [.int 5]) (rest := []) ⟨hx, hb, hml, hown, hts⟩ (k_stepTo l G a_49 a_50 a_51 a_52 a_53 a_1 a_42 a_54 a_55 a_56 H.size 5 f_b z16 z13 4 5 ⟨by decide, by decide⟩ (by decide) (rfl) (i_15)) (cwV 1 hts gV_X7_102 rfl rfl rfl hv_X7_stepTo ⟨Nat.le_of_ble_eq_true rfl, Nat.le_of_ble_eq_true rfl⟩) (g5_preV hPc hK hDc hN hT hS hFc (ci := 7) (q0 := 0) rfl rfl) rfl rfl hl.1 rfl (lv_room (Nat.le_of_ble_eq_true rfl)) dX7_countRows_72 ⟨Nat.le_of_ble_eq_true rfl, Nat.le_of_ble_eq_true rfl⟩) hS (fun q _ h => hFc q h) hFc (fun u t H1 locs ht hvm hw hB hz1 hk1 hS => ?_)
              obtain ⟨hP1, hD1⟩ := hB
              rw [ht] at hP1
              obtain ⟨z19, i_18, rfl⟩ := hw
              have i_18 : ∀ j : Nat, j < 64 → z19 j = itF f_b 5 j := i_18
              obtain ⟨hP, hD⟩ := va_join (wr := []) (w1 := [(a_49, .inr (7, [.ref a_1, .ref a_42, .ref a_50, .ref a_51, .int 0, .ref a_53, .ref a_52, .ref a_54, .ref a_55, .ref a_56])), (a_50, .inl (G.2 1, 24, .inr (.inl f_b))), (a_51, .inl (G.2 0, 1536, .inl (fun _ => 0))), (a_53, .inl (G.2 1, 2048, .inr (.inl z19))), (a_52, .inl (G.2 1, 2048, .inr (.inl z16)))]) hP hD [0, 1, 2, 3, 4] [] rfl rfl (by decide) (by decide) hk1 hFc hP1 hD1
              generalize H1 = H at hP hS ⊢
              have hP : va_P G.1 vwCl [(a_49, .inr (7, [.ref a_1, .ref a_42, .ref a_50, .ref a_51, .int 0, .ref a_53, .ref a_52, .ref a_54, .ref a_55, .ref a_56])), (a_50, .inl (G.2 1, 24, .inr (.inl f_b))), (a_51, .inl (G.2 0, 1536, .inl (fun _ => 0))), (a_53, .inl (G.2 1, 2048, .inr (.inl z19))), (a_52, .inl (G.2 1, 2048, .inr (.inl z16)))] H := hP
              have hD : va_D A [(a_49, .inr (7, [.ref a_1, .ref a_42, .ref a_50, .ref a_51, .int 0, .ref a_53, .ref a_52, .ref a_54, .ref a_55, .ref a_56])), (a_50, .inl (G.2 1, 24, .inr (.inl f_b))), (a_51, .inl (G.2 0, 1536, .inl (fun _ => 0))), (a_53, .inl (G.2 1, 2048, .inr (.inl z19))), (a_52, .inl (G.2 1, 2048, .inr (.inl z16)))] := hD
              refine lv_iinc (v := 6) (lv' := [(2, .int 6), (1, .int 1), (0, .ref a_49)]) hx hb dX7_countRows_75 hl (k := 0) rfl (by decide) (by decide) rfl (fun ls hl => ?_)
              refine lv_goto (tgt := 64) hx hb dX7_countRows_78 (by decide) ?_
              refine lv_iload_n hx hb dX7_countRows_64 rfl (lv_at hl 0 rfl) ?_
              refine lv_bipush (v := 24) hx hb dX7_countRows_65 (by decide) ?_
              refine lv_icmp_ge (tgt := 81) hx hb dX7_countRows_67 (by decide) (fun c_20 => ?_) (fun c_20 => ?_)
              ·
                exact absurd c_20 (by decide)
              ·
                refine lv_aload_n hx hb dX7_countRows_70 rfl (lv_at hl 2 rfl) ?_
                refine lv_iload_n hx hb dX7_countRows_71 rfl (lv_at hl 0 rfl) ?_
                have hPc := hP.sub (ws' := [(a_49, .inr (7, [.ref a_1, .ref a_42, .ref a_50, .ref a_51, .int 0, .ref a_53, .ref a_52, .ref a_54, .ref a_55, .ref a_56])), (a_50, .inl (G.2 1, 24, .inr (.inl f_b))), (a_51, .inl (G.2 0, 1536, .inl (fun _ => 0))), (a_53, .inl (G.2 1, 2048, .inr (.inl z19))), (a_52, .inl (G.2 1, 2048, .inr (.inl z16)))]) [0, 1, 2, 3, 4] rfl
                have hDc := hD.sub (ws' := [(a_49, .inr (7, [.ref a_1, .ref a_42, .ref a_50, .ref a_51, .int 0, .ref a_53, .ref a_52, .ref a_54, .ref a_55, .ref a_56])), (a_50, .inl (G.2 1, 24, .inr (.inl f_b))), (a_51, .inl (G.2 0, 1536, .inl (fun _ => 0))), (a_53, .inl (G.2 1, 2048, .inr (.inl z19))), (a_52, .inl (G.2 1, 2048, .inr (.inl z16)))]) [0, 1, 2, 3, 4] (by decide) rfl
                have hFc := va_free (wc := [(a_49, .inr (7, [.ref a_1, .ref a_42, .ref a_50, .ref a_51, .int 0, .ref a_53, .ref a_52, .ref a_54, .ref a_55, .ref a_56])), (a_50, .inl (G.2 1, 24, .inr (.inl f_b))), (a_51, .inl (G.2 0, 1536, .inl (fun _ => 0))), (a_53, .inl (G.2 1, 2048, .inr (.inl z19))), (a_52, .inl (G.2 1, 2048, .inr (.inl z16)))]) hD hS hA [0, 1, 2, 3, 4] rfl
                refine va_callv (va_runV (As := [.int 6]) (rest := []) ⟨hx, hb, hml, hown, hts⟩ (k_stepTo l G a_49 a_50 a_51 a_53 a_52 a_1 a_42 a_54 a_55 a_56 H.size 6 f_b z19 z16 5 6 ⟨by decide, by decide⟩ (by decide) (rfl) (i_18)) (cwV 1 hts gV_X7_102 rfl rfl rfl hv_X7_stepTo ⟨Nat.le_of_ble_eq_true rfl, Nat.le_of_ble_eq_true rfl⟩) (g5_preV hPc hK hDc hN hT hS hFc (ci := 7) (q0 := 0) rfl rfl) rfl rfl hl.1 rfl (lv_room (Nat.le_of_ble_eq_true rfl)) dX7_countRows_72 ⟨Nat.le_of_ble_eq_true rfl, Nat.le_of_ble_eq_true rfl⟩) hS (fun q _ h => hFc q h) hFc (fun u t H1 locs ht hvm hw hB hz1 hk1 hS => ?_)
                obtain ⟨hP1, hD1⟩ := hB
                rw [ht] at hP1
                obtain ⟨z22, i_21, rfl⟩ := hw
                have i_21 : ∀ j : Nat, j < 64 → z22 j = itF f_b 6 j := i_21
                obtain ⟨hP, hD⟩ := va_join (wr := []) (w1 := [(a_49, .inr (7, [.ref a_1, .ref a_42, .ref a_50, .ref a_51, .int 0, .ref a_52, .ref a_53, .ref a_54, .ref a_55, .ref a_56])), (a_50, .inl (G.2 1, 24, .inr (.inl f_b))), (a_51, .inl (G.2 0, 1536, .inl (fun _ => 0))), (a_52, .inl (G.2 1, 2048, .inr (.inl z22))), (a_53, .inl (G.2 1, 2048, .inr (.inl z19)))]) hP hD [0, 1, 2, 3, 4] [] rfl rfl (by decide) (by decide) hk1 hFc hP1 hD1
                generalize H1 = H at hP hS ⊢
                have hP : va_P G.1 vwCl [(a_49, .inr (7, [.ref a_1, .ref a_42, .ref a_50, .ref a_51, .int 0, .ref a_52, .ref a_53, .ref a_54, .ref a_55, .ref a_56])), (a_50, .inl (G.2 1, 24, .inr (.inl f_b))), (a_51, .inl (G.2 0, 1536, .inl (fun _ => 0))), (a_52, .inl (G.2 1, 2048, .inr (.inl z22))), (a_53, .inl (G.2 1, 2048, .inr (.inl z19)))] H := hP
                have hD : va_D A [(a_49, .inr (7, [.ref a_1, .ref a_42, .ref a_50, .ref a_51, .int 0, .ref a_52, .ref a_53, .ref a_54, .ref a_55, .ref a_56])), (a_50, .inl (G.2 1, 24, .inr (.inl f_b))), (a_51, .inl (G.2 0, 1536, .inl (fun _ => 0))), (a_52, .inl (G.2 1, 2048, .inr (.inl z22))), (a_53, .inl (G.2 1, 2048, .inr (.inl z19)))] := hD
                refine lv_iinc (v := 7) (lv' := [(2, .int 7), (1, .int 1), (0, .ref a_49)]) hx hb dX7_countRows_75 hl (k := 0) rfl (by decide) (by decide) rfl (fun ls hl => ?_)
                refine lv_goto (tgt := 64) hx hb dX7_countRows_78 (by decide) ?_
                refine lv_iload_n hx hb dX7_countRows_64 rfl (lv_at hl 0 rfl) ?_
                refine lv_bipush (v := 24) hx hb dX7_countRows_65 (by decide) ?_
                refine lv_icmp_ge (tgt := 81) hx hb dX7_countRows_67 (by decide) (fun c_23 => ?_) (fun c_23 => ?_)
                ·
                  exact absurd c_23 (by decide)
                ·
                  refine lv_aload_n hx hb dX7_countRows_70 rfl (lv_at hl 2 rfl) ?_
                  refine lv_iload_n hx hb dX7_countRows_71 rfl (lv_at hl 0 rfl) ?_
                  have hPc := hP.sub (ws' := [(a_49, .inr (7, [.ref a_1, .ref a_42, .ref a_50, .ref a_51, .int 0, .ref a_52, .ref a_53, .ref a_54, .ref a_55, .ref a_56])), (a_50, .inl (G.2 1, 24, .inr (.inl f_b))), (a_51, .inl (G.2 0, 1536, .inl (fun _ => 0))), (a_52, .inl (G.2 1, 2048, .inr (.inl z22))), (a_53, .inl (G.2 1, 2048, .inr (.inl z19)))]) [0, 1, 2, 3, 4] rfl
                  have hDc := hD.sub (ws' := [(a_49, .inr (7, [.ref a_1, .ref a_42, .ref a_50, .ref a_51, .int 0, .ref a_52, .ref a_53, .ref a_54, .ref a_55, .ref a_56])), (a_50, .inl (G.2 1, 24, .inr (.inl f_b))), (a_51, .inl (G.2 0, 1536, .inl (fun _ => 0))), (a_52, .inl (G.2 1, 2048, .inr (.inl z22))), (a_53, .inl (G.2 1, 2048, .inr (.inl z19)))]) [0, 1, 2, 3, 4] (by decide) rfl
                  have hFc := va_free (wc := [(a_49, .inr (7, [.ref a_1, .ref a_42, .ref a_50, .ref a_51, .int 0, .ref a_52, .ref a_53, .ref a_54, .ref a_55, .ref a_56])), (a_50, .inl (G.2 1, 24, .inr (.inl f_b))), (a_51, .inl (G.2 0, 1536, .inl (fun _ => 0))), (a_52, .inl (G.2 1, 2048, .inr (.inl z22))), (a_53, .inl (G.2 1, 2048, .inr (.inl z19)))]) hD hS hA [0, 1, 2, 3, 4] rfl
                  refine va_callv (va_runV (As := [.int 7]) (rest := []) ⟨hx, hb, hml, hown, hts⟩ (k_stepTo l G a_49 a_50 a_51 a_52 a_53 a_1 a_42 a_54 a_55 a_56 H.size 7 f_b z22 z19 6 7 ⟨by decide, by decide⟩ (by decide) (rfl) (i_21)) (cwV 1 hts gV_X7_102 rfl rfl rfl hv_X7_stepTo ⟨Nat.le_of_ble_eq_true rfl, Nat.le_of_ble_eq_true rfl⟩) (g5_preV hPc hK hDc hN hT hS hFc (ci := 7) (q0 := 0) rfl rfl) rfl rfl hl.1 rfl (lv_room (Nat.le_of_ble_eq_true rfl)) dX7_countRows_72 ⟨Nat.le_of_ble_eq_true rfl, Nat.le_of_ble_eq_true rfl⟩) hS (fun q _ h => hFc q h) hFc (fun u t H1 locs ht hvm hw hB hz1 hk1 hS => ?_)
                  obtain ⟨hP1, hD1⟩ := hB
                  rw [ht] at hP1
                  obtain ⟨z25, i_24, rfl⟩ := hw
                  have i_24 : ∀ j : Nat, j < 64 → z25 j = itF f_b 7 j := i_24
                  obtain ⟨hP, hD⟩ := va_join (wr := []) (w1 := [(a_49, .inr (7, [.ref a_1, .ref a_42, .ref a_50, .ref a_51, .int 0, .ref a_53, .ref a_52, .ref a_54, .ref a_55, .ref a_56])), (a_50, .inl (G.2 1, 24, .inr (.inl f_b))), (a_51, .inl (G.2 0, 1536, .inl (fun _ => 0))), (a_53, .inl (G.2 1, 2048, .inr (.inl z25))), (a_52, .inl (G.2 1, 2048, .inr (.inl z22)))]) hP hD [0, 1, 2, 3, 4] [] rfl rfl (by decide) (by decide) hk1 hFc hP1 hD1
                  generalize H1 = H at hP hS ⊢
                  have hP : va_P G.1 vwCl [(a_49, .inr (7, [.ref a_1, .ref a_42, .ref a_50, .ref a_51, .int 0, .ref a_53, .ref a_52, .ref a_54, .ref a_55, .ref a_56])), (a_50, .inl (G.2 1, 24, .inr (.inl f_b))), (a_51, .inl (G.2 0, 1536, .inl (fun _ => 0))), (a_53, .inl (G.2 1, 2048, .inr (.inl z25))), (a_52, .inl (G.2 1, 2048, .inr (.inl z22)))] H := hP
                  have hD : va_D A [(a_49, .inr (7, [.ref a_1, .ref a_42, .ref a_50, .ref a_51, .int 0, .ref a_53, .ref a_52, .ref a_54, .ref a_55, .ref a_56])), (a_50, .inl (G.2 1, 24, .inr (.inl f_b))), (a_51, .inl (G.2 0, 1536, .inl (fun _ => 0))), (a_53, .inl (G.2 1, 2048, .inr (.inl z25))), (a_52, .inl (G.2 1, 2048, .inr (.inl z22)))] := hD
                  refine lv_iinc (v := 8) (lv' := [(2, .int 8), (1, .int 1), (0, .ref a_49)]) hx hb dX7_countRows_75 hl (k := 0) rfl (by decide) (by decide) rfl (fun ls hl => ?_)
                  refine lv_goto (tgt := 64) hx hb dX7_countRows_78 (by decide) ?_
                  refine lv_iload_n hx hb dX7_countRows_64 rfl (lv_at hl 0 rfl) ?_
                  refine lv_bipush (v := 24) hx hb dX7_countRows_65 (by decide) ?_
                  refine lv_icmp_ge (tgt := 81) hx hb dX7_countRows_67 (by decide) (fun c_26 => ?_) (fun c_26 => ?_)
                  ·
                    exact absurd c_26 (by decide)
                  ·
                    refine lv_aload_n hx hb dX7_countRows_70 rfl (lv_at hl 2 rfl) ?_
                    refine lv_iload_n hx hb dX7_countRows_71 rfl (lv_at hl 0 rfl) ?_
                    have hPc := hP.sub (ws' := [(a_49, .inr (7, [.ref a_1, .ref a_42, .ref a_50, .ref a_51, .int 0, .ref a_53, .ref a_52, .ref a_54, .ref a_55, .ref a_56])), (a_50, .inl (G.2 1, 24, .inr (.inl f_b))), (a_51, .inl (G.2 0, 1536, .inl (fun _ => 0))), (a_53, .inl (G.2 1, 2048, .inr (.inl z25))), (a_52, .inl (G.2 1, 2048, .inr (.inl z22)))]) [0, 1, 2, 3, 4] rfl
                    have hDc := hD.sub (ws' := [(a_49, .inr (7, [.ref a_1, .ref a_42, .ref a_50, .ref a_51, .int 0, .ref a_53, .ref a_52, .ref a_54, .ref a_55, .ref a_56])), (a_50, .inl (G.2 1, 24, .inr (.inl f_b))), (a_51, .inl (G.2 0, 1536, .inl (fun _ => 0))), (a_53, .inl (G.2 1, 2048, .inr (.inl z25))), (a_52, .inl (G.2 1, 2048, .inr (.inl z22)))]) [0, 1, 2, 3, 4] (by decide) rfl
                    have hFc := va_free (wc := [(a_49, .inr (7, [.ref a_1, .ref a_42, .ref a_50, .ref a_51, .int 0, .ref a_53, .ref a_52, .ref a_54, .ref a_55, .ref a_56])), (a_50, .inl (G.2 1, 24, .inr (.inl f_b))), (a_51, .inl (G.2 0, 1536, .inl (fun _ => 0))), (a_53, .inl (G.2 1, 2048, .inr (.inl z25))), (a_52, .inl (G.2 1, 2048, .inr (.inl z22)))]) hD hS hA [0, 1, 2, 3, 4] rfl
                    refine va_callv (va_runV (As := [.int 8]) (rest := []) ⟨hx, hb, hml, hown, hts⟩ (k_stepTo l G a_49 a_50 a_51 a_53 a_52 a_1 a_42 a_54 a_55 a_56 H.size 8 f_b z25 z22 7 8 ⟨by decide, by decide⟩ (by decide) (rfl) (i_24)) (cwV 1 hts gV_X7_102 rfl rfl rfl hv_X7_stepTo ⟨Nat.le_of_ble_eq_true rfl, Nat.le_of_ble_eq_true rfl⟩) (g5_preV hPc hK hDc hN hT hS hFc (ci := 7) (q0 := 0) rfl rfl) rfl rfl hl.1 rfl (lv_room (Nat.le_of_ble_eq_true rfl)) dX7_countRows_72 ⟨Nat.le_of_ble_eq_true rfl, Nat.le_of_ble_eq_true rfl⟩) hS (fun q _ h => hFc q h) hFc (fun u t H1 locs ht hvm hw hB hz1 hk1 hS => ?_)
                    obtain ⟨hP1, hD1⟩ := hB
                    rw [ht] at hP1
                    obtain ⟨z28, i_27, rfl⟩ := hw
                    have i_27 : ∀ j : Nat, j < 64 → z28 j = itF f_b 8 j := i_27
                    obtain ⟨hP, hD⟩ := va_join (wr := []) (w1 := [(a_49, .inr (7, [.ref a_1, .ref a_42, .ref a_50, .ref a_51, .int 0, .ref a_52, .ref a_53, .ref a_54, .ref a_55, .ref a_56])), (a_50, .inl (G.2 1, 24, .inr (.inl f_b))), (a_51, .inl (G.2 0, 1536, .inl (fun _ => 0))), (a_52, .inl (G.2 1, 2048, .inr (.inl z28))), (a_53, .inl (G.2 1, 2048, .inr (.inl z25)))]) hP hD [0, 1, 2, 3, 4] [] rfl rfl (by decide) (by decide) hk1 hFc hP1 hD1
                    generalize H1 = H at hP hS ⊢
                    have hP : va_P G.1 vwCl [(a_49, .inr (7, [.ref a_1, .ref a_42, .ref a_50, .ref a_51, .int 0, .ref a_52, .ref a_53, .ref a_54, .ref a_55, .ref a_56])), (a_50, .inl (G.2 1, 24, .inr (.inl f_b))), (a_51, .inl (G.2 0, 1536, .inl (fun _ => 0))), (a_52, .inl (G.2 1, 2048, .inr (.inl z28))), (a_53, .inl (G.2 1, 2048, .inr (.inl z25)))] H := hP
                    have hD : va_D A [(a_49, .inr (7, [.ref a_1, .ref a_42, .ref a_50, .ref a_51, .int 0, .ref a_52, .ref a_53, .ref a_54, .ref a_55, .ref a_56])), (a_50, .inl (G.2 1, 24, .inr (.inl f_b))), (a_51, .inl (G.2 0, 1536, .inl (fun _ => 0))), (a_52, .inl (G.2 1, 2048, .inr (.inl z28))), (a_53, .inl (G.2 1, 2048, .inr (.inl z25)))] := hD
                    refine lv_iinc (v := 9) (lv' := [(2, .int 9), (1, .int 1), (0, .ref a_49)]) hx hb dX7_countRows_75 hl (k := 0) rfl (by decide) (by decide) rfl (fun ls hl => ?_)
                    refine lv_goto (tgt := 64) hx hb dX7_countRows_78 (by decide) ?_
                    refine lv_iload_n hx hb dX7_countRows_64 rfl (lv_at hl 0 rfl) ?_
                    refine lv_bipush (v := 24) hx hb dX7_countRows_65 (by decide) ?_
                    refine lv_icmp_ge (tgt := 81) hx hb dX7_countRows_67 (by decide) (fun c_29 => ?_) (fun c_29 => ?_)
                    ·
                      exact absurd c_29 (by decide)
                    ·
                      refine lv_aload_n hx hb dX7_countRows_70 rfl (lv_at hl 2 rfl) ?_
                      refine lv_iload_n hx hb dX7_countRows_71 rfl (lv_at hl 0 rfl) ?_
                      have hPc := hP.sub (ws' := [(a_49, .inr (7, [.ref a_1, .ref a_42, .ref a_50, .ref a_51, .int 0, .ref a_52, .ref a_53, .ref a_54, .ref a_55, .ref a_56])), (a_50, .inl (G.2 1, 24, .inr (.inl f_b))), (a_51, .inl (G.2 0, 1536, .inl (fun _ => 0))), (a_52, .inl (G.2 1, 2048, .inr (.inl z28))), (a_53, .inl (G.2 1, 2048, .inr (.inl z25)))]) [0, 1, 2, 3, 4] rfl
                      have hDc := hD.sub (ws' := [(a_49, .inr (7, [.ref a_1, .ref a_42, .ref a_50, .ref a_51, .int 0, .ref a_52, .ref a_53, .ref a_54, .ref a_55, .ref a_56])), (a_50, .inl (G.2 1, 24, .inr (.inl f_b))), (a_51, .inl (G.2 0, 1536, .inl (fun _ => 0))), (a_52, .inl (G.2 1, 2048, .inr (.inl z28))), (a_53, .inl (G.2 1, 2048, .inr (.inl z25)))]) [0, 1, 2, 3, 4] (by decide) rfl
                      have hFc := va_free (wc := [(a_49, .inr (7, [.ref a_1, .ref a_42, .ref a_50, .ref a_51, .int 0, .ref a_52, .ref a_53, .ref a_54, .ref a_55, .ref a_56])), (a_50, .inl (G.2 1, 24, .inr (.inl f_b))), (a_51, .inl (G.2 0, 1536, .inl (fun _ => 0))), (a_52, .inl (G.2 1, 2048, .inr (.inl z28))), (a_53, .inl (G.2 1, 2048, .inr (.inl z25)))]) hD hS hA [0, 1, 2, 3, 4] rfl
                      refine va_callv (va_runV (As := [.int 9]) (rest := []) ⟨hx, hb, hml, hown, hts⟩ (k_stepTo l G a_49 a_50 a_51 a_52 a_53 a_1 a_42 a_54 a_55 a_56 H.size 9 f_b z28 z25 8 9 ⟨by decide, by decide⟩ (by decide) (rfl) (i_27)) (cwV 1 hts gV_X7_102 rfl rfl rfl hv_X7_stepTo ⟨Nat.le_of_ble_eq_true rfl, Nat.le_of_ble_eq_true rfl⟩) (g5_preV hPc hK hDc hN hT hS hFc (ci := 7) (q0 := 0) rfl rfl) rfl rfl hl.1 rfl (lv_room (Nat.le_of_ble_eq_true rfl)) dX7_countRows_72 ⟨Nat.le_of_ble_eq_true rfl, Nat.le_of_ble_eq_true rfl⟩) hS (fun q _ h => hFc q h) hFc (fun u t H1 locs ht hvm hw hB hz1 hk1 hS => ?_)
                      obtain ⟨hP1, hD1⟩ := hB
                      rw [ht] at hP1
                      obtain ⟨z31, i_30, rfl⟩ := hw
                      have i_30 : ∀ j : Nat, j < 64 → z31 j = itF f_b 9 j := i_30
                      obtain ⟨hP, hD⟩ := va_join (wr := []) (w1 := [(a_49, .inr (7, [.ref a_1, .ref a_42, .ref a_50, .ref a_51, .int 0, .ref a_53, .ref a_52, .ref a_54, .ref a_55, .ref a_56])), (a_50, .inl (G.2 1, 24, .inr (.inl f_b))), (a_51, .inl (G.2 0, 1536, .inl (fun _ => 0))), (a_53, .inl (G.2 1, 2048, .inr (.inl z31))), (a_52, .inl (G.2 1, 2048, .inr (.inl z28)))]) hP hD [0, 1, 2, 3, 4] [] rfl rfl (by decide) (by decide) hk1 hFc hP1 hD1
                      generalize H1 = H at hP hS ⊢
                      have hP : va_P G.1 vwCl [(a_49, .inr (7, [.ref a_1, .ref a_42, .ref a_50, .ref a_51, .int 0, .ref a_53, .ref a_52, .ref a_54, .ref a_55, .ref a_56])), (a_50, .inl (G.2 1, 24, .inr (.inl f_b))), (a_51, .inl (G.2 0, 1536, .inl (fun _ => 0))), (a_53, .inl (G.2 1, 2048, .inr (.inl z31))), (a_52, .inl (G.2 1, 2048, .inr (.inl z28)))] H := hP
                      have hD : va_D A [(a_49, .inr (7, [.ref a_1, .ref a_42, .ref a_50, .ref a_51, .int 0, .ref a_53, .ref a_52, .ref a_54, .ref a_55, .ref a_56])), (a_50, .inl (G.2 1, 24, .inr (.inl f_b))), (a_51, .inl (G.2 0, 1536, .inl (fun _ => 0))), (a_53, .inl (G.2 1, 2048, .inr (.inl z31))), (a_52, .inl (G.2 1, 2048, .inr (.inl z28)))] := hD
                      refine lv_iinc (v := 10) (lv' := [(2, .int 10), (1, .int 1), (0, .ref a_49)]) hx hb dX7_countRows_75 hl (k := 0) rfl (by decide) (by decide) rfl (fun ls hl => ?_)
                      refine lv_goto (tgt := 64) hx hb dX7_countRows_78 (by decide) ?_
                      refine lv_iload_n hx hb dX7_countRows_64 rfl (lv_at hl 0 rfl) ?_
                      refine lv_bipush (v := 24) hx hb dX7_countRows_65 (by decide) ?_
                      refine lv_icmp_ge (tgt := 81) hx hb dX7_countRows_67 (by decide) (fun c_32 => ?_) (fun c_32 => ?_)
                      ·
                        exact absurd c_32 (by decide)
                      ·
                        refine lv_aload_n hx hb dX7_countRows_70 rfl (lv_at hl 2 rfl) ?_
                        refine lv_iload_n hx hb dX7_countRows_71 rfl (lv_at hl 0 rfl) ?_
                        have hPc := hP.sub (ws' := [(a_49, .inr (7, [.ref a_1, .ref a_42, .ref a_50, .ref a_51, .int 0, .ref a_53, .ref a_52, .ref a_54, .ref a_55, .ref a_56])), (a_50, .inl (G.2 1, 24, .inr (.inl f_b))), (a_51, .inl (G.2 0, 1536, .inl (fun _ => 0))), (a_53, .inl (G.2 1, 2048, .inr (.inl z31))), (a_52, .inl (G.2 1, 2048, .inr (.inl z28)))]) [0, 1, 2, 3, 4] rfl
                        have hDc := hD.sub (ws' := [(a_49, .inr (7, [.ref a_1, .ref a_42, .ref a_50, .ref a_51, .int 0, .ref a_53, .ref a_52, .ref a_54, .ref a_55, .ref a_56])), (a_50, .inl (G.2 1, 24, .inr (.inl f_b))), (a_51, .inl (G.2 0, 1536, .inl (fun _ => 0))), (a_53, .inl (G.2 1, 2048, .inr (.inl z31))), (a_52, .inl (G.2 1, 2048, .inr (.inl z28)))]) [0, 1, 2, 3, 4] (by decide) rfl
                        have hFc := va_free (wc := [(a_49, .inr (7, [.ref a_1, .ref a_42, .ref a_50, .ref a_51, .int 0, .ref a_53, .ref a_52, .ref a_54, .ref a_55, .ref a_56])), (a_50, .inl (G.2 1, 24, .inr (.inl f_b))), (a_51, .inl (G.2 0, 1536, .inl (fun _ => 0))), (a_53, .inl (G.2 1, 2048, .inr (.inl z31))), (a_52, .inl (G.2 1, 2048, .inr (.inl z28)))]) hD hS hA [0, 1, 2, 3, 4] rfl
                        refine va_callv (va_runV (As := [.int 10]) (rest := []) ⟨hx, hb, hml, hown, hts⟩ (k_stepTo l G a_49 a_50 a_51 a_53 a_52 a_1 a_42 a_54 a_55 a_56 H.size 10 f_b z31 z28 9 10 ⟨by decide, by decide⟩ (by decide) (rfl) (i_30)) (cwV 1 hts gV_X7_102 rfl rfl rfl hv_X7_stepTo ⟨Nat.le_of_ble_eq_true rfl, Nat.le_of_ble_eq_true rfl⟩) (g5_preV hPc hK hDc hN hT hS hFc (ci := 7) (q0 := 0) rfl rfl) rfl rfl hl.1 rfl (lv_room (Nat.le_of_ble_eq_true rfl)) dX7_countRows_72 ⟨Nat.le_of_ble_eq_true rfl, Nat.le_of_ble_eq_true rfl⟩) hS (fun q _ h => hFc q h) hFc (fun u t H1 locs ht hvm hw hB hz1 hk1 hS => ?_)
                        obtain ⟨hP1, hD1⟩ := hB
                        rw [ht] at hP1
                        obtain ⟨z34, i_33, rfl⟩ := hw
                        have i_33 : ∀ j : Nat, j < 64 → z34 j = itF f_b 10 j := i_33
                        obtain ⟨hP, hD⟩ := va_join (wr := []) (w1 := [(a_49, .inr (7, [.ref a_1, .ref a_42, .ref a_50, .ref a_51, .int 0, .ref a_52, .ref a_53, .ref a_54, .ref a_55, .ref a_56])), (a_50, .inl (G.2 1, 24, .inr (.inl f_b))), (a_51, .inl (G.2 0, 1536, .inl (fun _ => 0))), (a_52, .inl (G.2 1, 2048, .inr (.inl z34))), (a_53, .inl (G.2 1, 2048, .inr (.inl z31)))]) hP hD [0, 1, 2, 3, 4] [] rfl rfl (by decide) (by decide) hk1 hFc hP1 hD1
                        generalize H1 = H at hP hS ⊢
                        have hP : va_P G.1 vwCl [(a_49, .inr (7, [.ref a_1, .ref a_42, .ref a_50, .ref a_51, .int 0, .ref a_52, .ref a_53, .ref a_54, .ref a_55, .ref a_56])), (a_50, .inl (G.2 1, 24, .inr (.inl f_b))), (a_51, .inl (G.2 0, 1536, .inl (fun _ => 0))), (a_52, .inl (G.2 1, 2048, .inr (.inl z34))), (a_53, .inl (G.2 1, 2048, .inr (.inl z31)))] H := hP
                        have hD : va_D A [(a_49, .inr (7, [.ref a_1, .ref a_42, .ref a_50, .ref a_51, .int 0, .ref a_52, .ref a_53, .ref a_54, .ref a_55, .ref a_56])), (a_50, .inl (G.2 1, 24, .inr (.inl f_b))), (a_51, .inl (G.2 0, 1536, .inl (fun _ => 0))), (a_52, .inl (G.2 1, 2048, .inr (.inl z34))), (a_53, .inl (G.2 1, 2048, .inr (.inl z31)))] := hD
                        refine lv_iinc (v := 11) (lv' := [(2, .int 11), (1, .int 1), (0, .ref a_49)]) hx hb dX7_countRows_75 hl (k := 0) rfl (by decide) (by decide) rfl (fun ls hl => ?_)
                        refine lv_goto (tgt := 64) hx hb dX7_countRows_78 (by decide) ?_
                        refine lv_iload_n hx hb dX7_countRows_64 rfl (lv_at hl 0 rfl) ?_
                        refine lv_bipush (v := 24) hx hb dX7_countRows_65 (by decide) ?_
                        refine lv_icmp_ge (tgt := 81) hx hb dX7_countRows_67 (by decide) (fun c_35 => ?_) (fun c_35 => ?_)
                        ·
                          exact absurd c_35 (by decide)
                        ·
                          refine lv_aload_n hx hb dX7_countRows_70 rfl (lv_at hl 2 rfl) ?_
                          refine lv_iload_n hx hb dX7_countRows_71 rfl (lv_at hl 0 rfl) ?_
                          have hPc := hP.sub (ws' := [(a_49, .inr (7, [.ref a_1, .ref a_42, .ref a_50, .ref a_51, .int 0, .ref a_52, .ref a_53, .ref a_54, .ref a_55, .ref a_56])), (a_50, .inl (G.2 1, 24, .inr (.inl f_b))), (a_51, .inl (G.2 0, 1536, .inl (fun _ => 0))), (a_52, .inl (G.2 1, 2048, .inr (.inl z34))), (a_53, .inl (G.2 1, 2048, .inr (.inl z31)))]) [0, 1, 2, 3, 4] rfl
                          have hDc := hD.sub (ws' := [(a_49, .inr (7, [.ref a_1, .ref a_42, .ref a_50, .ref a_51, .int 0, .ref a_52, .ref a_53, .ref a_54, .ref a_55, .ref a_56])), (a_50, .inl (G.2 1, 24, .inr (.inl f_b))), (a_51, .inl (G.2 0, 1536, .inl (fun _ => 0))), (a_52, .inl (G.2 1, 2048, .inr (.inl z34))), (a_53, .inl (G.2 1, 2048, .inr (.inl z31)))]) [0, 1, 2, 3, 4] (by decide) rfl
                          have hFc := va_free (wc := [(a_49, .inr (7, [.ref a_1, .ref a_42, .ref a_50, .ref a_51, .int 0, .ref a_52, .ref a_53, .ref a_54, .ref a_55, .ref a_56])), (a_50, .inl (G.2 1, 24, .inr (.inl f_b))), (a_51, .inl (G.2 0, 1536, .inl (fun _ => 0))), (a_52, .inl (G.2 1, 2048, .inr (.inl z34))), (a_53, .inl (G.2 1, 2048, .inr (.inl z31)))]) hD hS hA [0, 1, 2, 3, 4] rfl
                          refine va_callv (va_runV (As := [.int 11]) (rest := []) ⟨hx, hb, hml, hown, hts⟩ (k_stepTo l G a_49 a_50 a_51 a_52 a_53 a_1 a_42 a_54 a_55 a_56 H.size 11 f_b z34 z31 10 11 ⟨by decide, by decide⟩ (by decide) (rfl) (i_33)) (cwV 1 hts gV_X7_102 rfl rfl rfl hv_X7_stepTo ⟨Nat.le_of_ble_eq_true rfl, Nat.le_of_ble_eq_true rfl⟩) (g5_preV hPc hK hDc hN hT hS hFc (ci := 7) (q0 := 0) rfl rfl) rfl rfl hl.1 rfl (lv_room (Nat.le_of_ble_eq_true rfl)) dX7_countRows_72 ⟨Nat.le_of_ble_eq_true rfl, Nat.le_of_ble_eq_true rfl⟩) hS (fun q _ h => hFc q h) hFc (fun u t H1 locs ht hvm hw hB hz1 hk1 hS => ?_)
                          obtain ⟨hP1, hD1⟩ := hB
                          rw [ht] at hP1
                          obtain ⟨z37, i_36, rfl⟩ := hw
                          have i_36 : ∀ j : Nat, j < 64 → z37 j = itF f_b 11 j := i_36
                          obtain ⟨hP, hD⟩ := va_join (wr := []) (w1 := [(a_49, .inr (7, [.ref a_1, .ref a_42, .ref a_50, .ref a_51, .int 0, .ref a_53, .ref a_52, .ref a_54, .ref a_55, .ref a_56])), (a_50, .inl (G.2 1, 24, .inr (.inl f_b))), (a_51, .inl (G.2 0, 1536, .inl (fun _ => 0))), (a_53, .inl (G.2 1, 2048, .inr (.inl z37))), (a_52, .inl (G.2 1, 2048, .inr (.inl z34)))]) hP hD [0, 1, 2, 3, 4] [] rfl rfl (by decide) (by decide) hk1 hFc hP1 hD1
                          generalize H1 = H at hP hS ⊢
                          have hP : va_P G.1 vwCl [(a_49, .inr (7, [.ref a_1, .ref a_42, .ref a_50, .ref a_51, .int 0, .ref a_53, .ref a_52, .ref a_54, .ref a_55, .ref a_56])), (a_50, .inl (G.2 1, 24, .inr (.inl f_b))), (a_51, .inl (G.2 0, 1536, .inl (fun _ => 0))), (a_53, .inl (G.2 1, 2048, .inr (.inl z37))), (a_52, .inl (G.2 1, 2048, .inr (.inl z34)))] H := hP
                          have hD : va_D A [(a_49, .inr (7, [.ref a_1, .ref a_42, .ref a_50, .ref a_51, .int 0, .ref a_53, .ref a_52, .ref a_54, .ref a_55, .ref a_56])), (a_50, .inl (G.2 1, 24, .inr (.inl f_b))), (a_51, .inl (G.2 0, 1536, .inl (fun _ => 0))), (a_53, .inl (G.2 1, 2048, .inr (.inl z37))), (a_52, .inl (G.2 1, 2048, .inr (.inl z34)))] := hD
                          refine lv_iinc (v := 12) (lv' := [(2, .int 12), (1, .int 1), (0, .ref a_49)]) hx hb dX7_countRows_75 hl (k := 0) rfl (by decide) (by decide) rfl (fun ls hl => ?_)
                          refine lv_goto (tgt := 64) hx hb dX7_countRows_78 (by decide) ?_
                          refine lv_iload_n hx hb dX7_countRows_64 rfl (lv_at hl 0 rfl) ?_
                          refine lv_bipush (v := 24) hx hb dX7_countRows_65 (by decide) ?_
                          refine lv_icmp_ge (tgt := 81) hx hb dX7_countRows_67 (by decide) (fun c_38 => ?_) (fun c_38 => ?_)
                          ·
                            exact absurd c_38 (by decide)
                          ·
                            refine lv_aload_n hx hb dX7_countRows_70 rfl (lv_at hl 2 rfl) ?_
                            refine lv_iload_n hx hb dX7_countRows_71 rfl (lv_at hl 0 rfl) ?_
                            have hPc := hP.sub (ws' := [(a_49, .inr (7, [.ref a_1, .ref a_42, .ref a_50, .ref a_51, .int 0, .ref a_53, .ref a_52, .ref a_54, .ref a_55, .ref a_56])), (a_50, .inl (G.2 1, 24, .inr (.inl f_b))), (a_51, .inl (G.2 0, 1536, .inl (fun _ => 0))), (a_53, .inl (G.2 1, 2048, .inr (.inl z37))), (a_52, .inl (G.2 1, 2048, .inr (.inl z34)))]) [0, 1, 2, 3, 4] rfl
                            have hDc := hD.sub (ws' := [(a_49, .inr (7, [.ref a_1, .ref a_42, .ref a_50, .ref a_51, .int 0, .ref a_53, .ref a_52, .ref a_54, .ref a_55, .ref a_56])), (a_50, .inl (G.2 1, 24, .inr (.inl f_b))), (a_51, .inl (G.2 0, 1536, .inl (fun _ => 0))), (a_53, .inl (G.2 1, 2048, .inr (.inl z37))), (a_52, .inl (G.2 1, 2048, .inr (.inl z34)))]) [0, 1, 2, 3, 4] (by decide) rfl
                            have hFc := va_free (wc := [(a_49, .inr (7, [.ref a_1, .ref a_42, .ref a_50, .ref a_51, .int 0, .ref a_53, .ref a_52, .ref a_54, .ref a_55, .ref a_56])), (a_50, .inl (G.2 1, 24, .inr (.inl f_b))), (a_51, .inl (G.2 0, 1536, .inl (fun _ => 0))), (a_53, .inl (G.2 1, 2048, .inr (.inl z37))), (a_52, .inl (G.2 1, 2048, .inr (.inl z34)))]) hD hS hA [0, 1, 2, 3, 4] rfl
                            refine va_callv (va_runV (As := [.int 12]) (rest := []) ⟨hx, hb, hml, hown, hts⟩ (k_stepTo l G a_49 a_50 a_51 a_53 a_52 a_1 a_42 a_54 a_55 a_56 H.size 12 f_b z37 z34 11 12 ⟨by decide, by decide⟩ (by decide) (rfl) (i_36)) (cwV 1 hts gV_X7_102 rfl rfl rfl hv_X7_stepTo ⟨Nat.le_of_ble_eq_true rfl, Nat.le_of_ble_eq_true rfl⟩) (g5_preV hPc hK hDc hN hT hS hFc (ci := 7) (q0 := 0) rfl rfl) rfl rfl hl.1 rfl (lv_room (Nat.le_of_ble_eq_true rfl)) dX7_countRows_72 ⟨Nat.le_of_ble_eq_true rfl, Nat.le_of_ble_eq_true rfl⟩) hS (fun q _ h => hFc q h) hFc (fun u t H1 locs ht hvm hw hB hz1 hk1 hS => ?_)
                            obtain ⟨hP1, hD1⟩ := hB
                            rw [ht] at hP1
                            obtain ⟨z40, i_39, rfl⟩ := hw
                            have i_39 : ∀ j : Nat, j < 64 → z40 j = itF f_b 12 j := i_39
                            obtain ⟨hP, hD⟩ := va_join (wr := []) (w1 := [(a_49, .inr (7, [.ref a_1, .ref a_42, .ref a_50, .ref a_51, .int 0, .ref a_52, .ref a_53, .ref a_54, .ref a_55, .ref a_56])), (a_50, .inl (G.2 1, 24, .inr (.inl f_b))), (a_51, .inl (G.2 0, 1536, .inl (fun _ => 0))), (a_52, .inl (G.2 1, 2048, .inr (.inl z40))), (a_53, .inl (G.2 1, 2048, .inr (.inl z37)))]) hP hD [0, 1, 2, 3, 4] [] rfl rfl (by decide) (by decide) hk1 hFc hP1 hD1
                            generalize H1 = H at hP hS ⊢
                            have hP : va_P G.1 vwCl [(a_49, .inr (7, [.ref a_1, .ref a_42, .ref a_50, .ref a_51, .int 0, .ref a_52, .ref a_53, .ref a_54, .ref a_55, .ref a_56])), (a_50, .inl (G.2 1, 24, .inr (.inl f_b))), (a_51, .inl (G.2 0, 1536, .inl (fun _ => 0))), (a_52, .inl (G.2 1, 2048, .inr (.inl z40))), (a_53, .inl (G.2 1, 2048, .inr (.inl z37)))] H := hP
                            have hD : va_D A [(a_49, .inr (7, [.ref a_1, .ref a_42, .ref a_50, .ref a_51, .int 0, .ref a_52, .ref a_53, .ref a_54, .ref a_55, .ref a_56])), (a_50, .inl (G.2 1, 24, .inr (.inl f_b))), (a_51, .inl (G.2 0, 1536, .inl (fun _ => 0))), (a_52, .inl (G.2 1, 2048, .inr (.inl z40))), (a_53, .inl (G.2 1, 2048, .inr (.inl z37)))] := hD
                            refine lv_iinc (v := 13) (lv' := [(2, .int 13), (1, .int 1), (0, .ref a_49)]) hx hb dX7_countRows_75 hl (k := 0) rfl (by decide) (by decide) rfl (fun ls hl => ?_)
                            refine lv_goto (tgt := 64) hx hb dX7_countRows_78 (by decide) ?_
                            refine lv_iload_n hx hb dX7_countRows_64 rfl (lv_at hl 0 rfl) ?_
                            refine lv_bipush (v := 24) hx hb dX7_countRows_65 (by decide) ?_
                            refine lv_icmp_ge (tgt := 81) hx hb dX7_countRows_67 (by decide) (fun c_41 => ?_) (fun c_41 => ?_)
                            ·
                              exact absurd c_41 (by decide)
                            ·
                              refine lv_aload_n hx hb dX7_countRows_70 rfl (lv_at hl 2 rfl) ?_
                              refine lv_iload_n hx hb dX7_countRows_71 rfl (lv_at hl 0 rfl) ?_
                              have hPc := hP.sub (ws' := [(a_49, .inr (7, [.ref a_1, .ref a_42, .ref a_50, .ref a_51, .int 0, .ref a_52, .ref a_53, .ref a_54, .ref a_55, .ref a_56])), (a_50, .inl (G.2 1, 24, .inr (.inl f_b))), (a_51, .inl (G.2 0, 1536, .inl (fun _ => 0))), (a_52, .inl (G.2 1, 2048, .inr (.inl z40))), (a_53, .inl (G.2 1, 2048, .inr (.inl z37)))]) [0, 1, 2, 3, 4] rfl
                              have hDc := hD.sub (ws' := [(a_49, .inr (7, [.ref a_1, .ref a_42, .ref a_50, .ref a_51, .int 0, .ref a_52, .ref a_53, .ref a_54, .ref a_55, .ref a_56])), (a_50, .inl (G.2 1, 24, .inr (.inl f_b))), (a_51, .inl (G.2 0, 1536, .inl (fun _ => 0))), (a_52, .inl (G.2 1, 2048, .inr (.inl z40))), (a_53, .inl (G.2 1, 2048, .inr (.inl z37)))]) [0, 1, 2, 3, 4] (by decide) rfl
                              have hFc := va_free (wc := [(a_49, .inr (7, [.ref a_1, .ref a_42, .ref a_50, .ref a_51, .int 0, .ref a_52, .ref a_53, .ref a_54, .ref a_55, .ref a_56])), (a_50, .inl (G.2 1, 24, .inr (.inl f_b))), (a_51, .inl (G.2 0, 1536, .inl (fun _ => 0))), (a_52, .inl (G.2 1, 2048, .inr (.inl z40))), (a_53, .inl (G.2 1, 2048, .inr (.inl z37)))]) hD hS hA [0, 1, 2, 3, 4] rfl
                              refine va_callv (va_runV (As := [.int 13]) (rest := []) ⟨hx, hb, hml, hown, hts⟩ (k_stepTo l G a_49 a_50 a_51 a_52 a_53 a_1 a_42 a_54 a_55 a_56 H.size 13 f_b z40 z37 12 13 ⟨by decide, by decide⟩ (by decide) (rfl) (i_39)) (cwV 1 hts gV_X7_102 rfl rfl rfl hv_X7_stepTo ⟨Nat.le_of_ble_eq_true rfl, Nat.le_of_ble_eq_true rfl⟩) (g5_preV hPc hK hDc hN hT hS hFc (ci := 7) (q0 := 0) rfl rfl) rfl rfl hl.1 rfl (lv_room (Nat.le_of_ble_eq_true rfl)) dX7_countRows_72 ⟨Nat.le_of_ble_eq_true rfl, Nat.le_of_ble_eq_true rfl⟩) hS (fun q _ h => hFc q h) hFc (fun u t H1 locs ht hvm hw hB hz1 hk1 hS => ?_)
                              obtain ⟨hP1, hD1⟩ := hB
                              rw [ht] at hP1
                              obtain ⟨z43, i_42, rfl⟩ := hw
                              have i_42 : ∀ j : Nat, j < 64 → z43 j = itF f_b 13 j := i_42
                              obtain ⟨hP, hD⟩ := va_join (wr := []) (w1 := [(a_49, .inr (7, [.ref a_1, .ref a_42, .ref a_50, .ref a_51, .int 0, .ref a_53, .ref a_52, .ref a_54, .ref a_55, .ref a_56])), (a_50, .inl (G.2 1, 24, .inr (.inl f_b))), (a_51, .inl (G.2 0, 1536, .inl (fun _ => 0))), (a_53, .inl (G.2 1, 2048, .inr (.inl z43))), (a_52, .inl (G.2 1, 2048, .inr (.inl z40)))]) hP hD [0, 1, 2, 3, 4] [] rfl rfl (by decide) (by decide) hk1 hFc hP1 hD1
                              generalize H1 = H at hP hS ⊢
                              have hP : va_P G.1 vwCl [(a_49, .inr (7, [.ref a_1, .ref a_42, .ref a_50, .ref a_51, .int 0, .ref a_53, .ref a_52, .ref a_54, .ref a_55, .ref a_56])), (a_50, .inl (G.2 1, 24, .inr (.inl f_b))), (a_51, .inl (G.2 0, 1536, .inl (fun _ => 0))), (a_53, .inl (G.2 1, 2048, .inr (.inl z43))), (a_52, .inl (G.2 1, 2048, .inr (.inl z40)))] H := hP
                              have hD : va_D A [(a_49, .inr (7, [.ref a_1, .ref a_42, .ref a_50, .ref a_51, .int 0, .ref a_53, .ref a_52, .ref a_54, .ref a_55, .ref a_56])), (a_50, .inl (G.2 1, 24, .inr (.inl f_b))), (a_51, .inl (G.2 0, 1536, .inl (fun _ => 0))), (a_53, .inl (G.2 1, 2048, .inr (.inl z43))), (a_52, .inl (G.2 1, 2048, .inr (.inl z40)))] := hD
                              refine lv_iinc (v := 14) (lv' := [(2, .int 14), (1, .int 1), (0, .ref a_49)]) hx hb dX7_countRows_75 hl (k := 0) rfl (by decide) (by decide) rfl (fun ls hl => ?_)
                              refine lv_goto (tgt := 64) hx hb dX7_countRows_78 (by decide) ?_
                              refine lv_iload_n hx hb dX7_countRows_64 rfl (lv_at hl 0 rfl) ?_
                              refine lv_bipush (v := 24) hx hb dX7_countRows_65 (by decide) ?_
                              refine lv_icmp_ge (tgt := 81) hx hb dX7_countRows_67 (by decide) (fun c_44 => ?_) (fun c_44 => ?_)
                              ·
                                exact absurd c_44 (by decide)
                              ·
                                refine lv_aload_n hx hb dX7_countRows_70 rfl (lv_at hl 2 rfl) ?_
                                refine lv_iload_n hx hb dX7_countRows_71 rfl (lv_at hl 0 rfl) ?_
                                have hPc := hP.sub (ws' := [(a_49, .inr (7, [.ref a_1, .ref a_42, .ref a_50, .ref a_51, .int 0, .ref a_53, .ref a_52, .ref a_54, .ref a_55, .ref a_56])), (a_50, .inl (G.2 1, 24, .inr (.inl f_b))), (a_51, .inl (G.2 0, 1536, .inl (fun _ => 0))), (a_53, .inl (G.2 1, 2048, .inr (.inl z43))), (a_52, .inl (G.2 1, 2048, .inr (.inl z40)))]) [0, 1, 2, 3, 4] rfl
                                have hDc := hD.sub (ws' := [(a_49, .inr (7, [.ref a_1, .ref a_42, .ref a_50, .ref a_51, .int 0, .ref a_53, .ref a_52, .ref a_54, .ref a_55, .ref a_56])), (a_50, .inl (G.2 1, 24, .inr (.inl f_b))), (a_51, .inl (G.2 0, 1536, .inl (fun _ => 0))), (a_53, .inl (G.2 1, 2048, .inr (.inl z43))), (a_52, .inl (G.2 1, 2048, .inr (.inl z40)))]) [0, 1, 2, 3, 4] (by decide) rfl
                                have hFc := va_free (wc := [(a_49, .inr (7, [.ref a_1, .ref a_42, .ref a_50, .ref a_51, .int 0, .ref a_53, .ref a_52, .ref a_54, .ref a_55, .ref a_56])), (a_50, .inl (G.2 1, 24, .inr (.inl f_b))), (a_51, .inl (G.2 0, 1536, .inl (fun _ => 0))), (a_53, .inl (G.2 1, 2048, .inr (.inl z43))), (a_52, .inl (G.2 1, 2048, .inr (.inl z40)))]) hD hS hA [0, 1, 2, 3, 4] rfl
                                refine va_callv (va_runV (As := [.int 14]) (rest := []) ⟨hx, hb, hml, hown, hts⟩ (k_stepTo l G a_49 a_50 a_51 a_53 a_52 a_1 a_42 a_54 a_55 a_56 H.size 14 f_b z43 z40 13 14 ⟨by decide, by decide⟩ (by decide) (rfl) (i_42)) (cwV 1 hts gV_X7_102 rfl rfl rfl hv_X7_stepTo ⟨Nat.le_of_ble_eq_true rfl, Nat.le_of_ble_eq_true rfl⟩) (g5_preV hPc hK hDc hN hT hS hFc (ci := 7) (q0 := 0) rfl rfl) rfl rfl hl.1 rfl (lv_room (Nat.le_of_ble_eq_true rfl)) dX7_countRows_72 ⟨Nat.le_of_ble_eq_true rfl, Nat.le_of_ble_eq_true rfl⟩) hS (fun q _ h => hFc q h) hFc (fun u t H1 locs ht hvm hw hB hz1 hk1 hS => ?_)
                                obtain ⟨hP1, hD1⟩ := hB
                                rw [ht] at hP1
                                obtain ⟨z46, i_45, rfl⟩ := hw
                                have i_45 : ∀ j : Nat, j < 64 → z46 j = itF f_b 14 j := i_45
                                obtain ⟨hP, hD⟩ := va_join (wr := []) (w1 := [(a_49, .inr (7, [.ref a_1, .ref a_42, .ref a_50, .ref a_51, .int 0, .ref a_52, .ref a_53, .ref a_54, .ref a_55, .ref a_56])), (a_50, .inl (G.2 1, 24, .inr (.inl f_b))), (a_51, .inl (G.2 0, 1536, .inl (fun _ => 0))), (a_52, .inl (G.2 1, 2048, .inr (.inl z46))), (a_53, .inl (G.2 1, 2048, .inr (.inl z43)))]) hP hD [0, 1, 2, 3, 4] [] rfl rfl (by decide) (by decide) hk1 hFc hP1 hD1
                                generalize H1 = H at hP hS ⊢
                                have hP : va_P G.1 vwCl [(a_49, .inr (7, [.ref a_1, .ref a_42, .ref a_50, .ref a_51, .int 0, .ref a_52, .ref a_53, .ref a_54, .ref a_55, .ref a_56])), (a_50, .inl (G.2 1, 24, .inr (.inl f_b))), (a_51, .inl (G.2 0, 1536, .inl (fun _ => 0))), (a_52, .inl (G.2 1, 2048, .inr (.inl z46))), (a_53, .inl (G.2 1, 2048, .inr (.inl z43)))] H := hP
                                have hD : va_D A [(a_49, .inr (7, [.ref a_1, .ref a_42, .ref a_50, .ref a_51, .int 0, .ref a_52, .ref a_53, .ref a_54, .ref a_55, .ref a_56])), (a_50, .inl (G.2 1, 24, .inr (.inl f_b))), (a_51, .inl (G.2 0, 1536, .inl (fun _ => 0))), (a_52, .inl (G.2 1, 2048, .inr (.inl z46))), (a_53, .inl (G.2 1, 2048, .inr (.inl z43)))] := hD
                                refine lv_iinc (v := 15) (lv' := [(2, .int 15), (1, .int 1), (0, .ref a_49)]) hx hb dX7_countRows_75 hl (k := 0) rfl (by decide) (by decide) rfl (fun ls hl => ?_)
                                refine lv_goto (tgt := 64) hx hb dX7_countRows_78 (by decide) ?_
                                refine lv_iload_n hx hb dX7_countRows_64 rfl (lv_at hl 0 rfl) ?_
                                refine lv_bipush (v := 24) hx hb dX7_countRows_65 (by decide) ?_
                                refine lv_icmp_ge (tgt := 81) hx hb dX7_countRows_67 (by decide) (fun c_47 => ?_) (fun c_47 => ?_)
                                ·
                                  exact absurd c_47 (by decide)
                                ·
                                  refine lv_aload_n hx hb dX7_countRows_70 rfl (lv_at hl 2 rfl) ?_
                                  refine lv_iload_n hx hb dX7_countRows_71 rfl (lv_at hl 0 rfl) ?_
                                  have hPc := hP.sub (ws' := [(a_49, .inr (7, [.ref a_1, .ref a_42, .ref a_50, .ref a_51, .int 0, .ref a_52, .ref a_53, .ref a_54, .ref a_55, .ref a_56])), (a_50, .inl (G.2 1, 24, .inr (.inl f_b))), (a_51, .inl (G.2 0, 1536, .inl (fun _ => 0))), (a_52, .inl (G.2 1, 2048, .inr (.inl z46))), (a_53, .inl (G.2 1, 2048, .inr (.inl z43)))]) [0, 1, 2, 3, 4] rfl
                                  have hDc := hD.sub (ws' := [(a_49, .inr (7, [.ref a_1, .ref a_42, .ref a_50, .ref a_51, .int 0, .ref a_52, .ref a_53, .ref a_54, .ref a_55, .ref a_56])), (a_50, .inl (G.2 1, 24, .inr (.inl f_b))), (a_51, .inl (G.2 0, 1536, .inl (fun _ => 0))), (a_52, .inl (G.2 1, 2048, .inr (.inl z46))), (a_53, .inl (G.2 1, 2048, .inr (.inl z43)))]) [0, 1, 2, 3, 4] (by decide) rfl
                                  have hFc := va_free (wc := [(a_49, .inr (7, [.ref a_1, .ref a_42, .ref a_50, .ref a_51, .int 0, .ref a_52, .ref a_53, .ref a_54, .ref a_55, .ref a_56])), (a_50, .inl (G.2 1, 24, .inr (.inl f_b))), (a_51, .inl (G.2 0, 1536, .inl (fun _ => 0))), (a_52, .inl (G.2 1, 2048, .inr (.inl z46))), (a_53, .inl (G.2 1, 2048, .inr (.inl z43)))]) hD hS hA [0, 1, 2, 3, 4] rfl
                                  refine va_callv (va_runV (As := [.int 15]) (rest := []) ⟨hx, hb, hml, hown, hts⟩ (k_stepTo l G a_49 a_50 a_51 a_52 a_53 a_1 a_42 a_54 a_55 a_56 H.size 15 f_b z46 z43 14 15 ⟨by decide, by decide⟩ (by decide) (rfl) (i_45)) (cwV 1 hts gV_X7_102 rfl rfl rfl hv_X7_stepTo ⟨Nat.le_of_ble_eq_true rfl, Nat.le_of_ble_eq_true rfl⟩) (g5_preV hPc hK hDc hN hT hS hFc (ci := 7) (q0 := 0) rfl rfl) rfl rfl hl.1 rfl (lv_room (Nat.le_of_ble_eq_true rfl)) dX7_countRows_72 ⟨Nat.le_of_ble_eq_true rfl, Nat.le_of_ble_eq_true rfl⟩) hS (fun q _ h => hFc q h) hFc (fun u t H1 locs ht hvm hw hB hz1 hk1 hS => ?_)
                                  obtain ⟨hP1, hD1⟩ := hB
                                  rw [ht] at hP1
                                  obtain ⟨z49, i_48, rfl⟩ := hw
                                  have i_48 : ∀ j : Nat, j < 64 → z49 j = itF f_b 15 j := i_48
                                  obtain ⟨hP, hD⟩ := va_join (wr := []) (w1 := [(a_49, .inr (7, [.ref a_1, .ref a_42, .ref a_50, .ref a_51, .int 0, .ref a_53, .ref a_52, .ref a_54, .ref a_55, .ref a_56])), (a_50, .inl (G.2 1, 24, .inr (.inl f_b))), (a_51, .inl (G.2 0, 1536, .inl (fun _ => 0))), (a_53, .inl (G.2 1, 2048, .inr (.inl z49))), (a_52, .inl (G.2 1, 2048, .inr (.inl z46)))]) hP hD [0, 1, 2, 3, 4] [] rfl rfl (by decide) (by decide) hk1 hFc hP1 hD1
                                  generalize H1 = H at hP hS ⊢
                                  have hP : va_P G.1 vwCl [(a_49, .inr (7, [.ref a_1, .ref a_42, .ref a_50, .ref a_51, .int 0, .ref a_53, .ref a_52, .ref a_54, .ref a_55, .ref a_56])), (a_50, .inl (G.2 1, 24, .inr (.inl f_b))), (a_51, .inl (G.2 0, 1536, .inl (fun _ => 0))), (a_53, .inl (G.2 1, 2048, .inr (.inl z49))), (a_52, .inl (G.2 1, 2048, .inr (.inl z46)))] H := hP
                                  have hD : va_D A [(a_49, .inr (7, [.ref a_1, .ref a_42, .ref a_50, .ref a_51, .int 0, .ref a_53, .ref a_52, .ref a_54, .ref a_55, .ref a_56])), (a_50, .inl (G.2 1, 24, .inr (.inl f_b))), (a_51, .inl (G.2 0, 1536, .inl (fun _ => 0))), (a_53, .inl (G.2 1, 2048, .inr (.inl z49))), (a_52, .inl (G.2 1, 2048, .inr (.inl z46)))] := hD
                                  refine lv_iinc (v := 16) (lv' := [(2, .int 16), (1, .int 1), (0, .ref a_49)]) hx hb dX7_countRows_75 hl (k := 0) rfl (by decide) (by decide) rfl (fun ls hl => ?_)
                                  refine lv_goto (tgt := 64) hx hb dX7_countRows_78 (by decide) ?_
                                  refine lv_iload_n hx hb dX7_countRows_64 rfl (lv_at hl 0 rfl) ?_
                                  refine lv_bipush (v := 24) hx hb dX7_countRows_65 (by decide) ?_
                                  refine lv_icmp_ge (tgt := 81) hx hb dX7_countRows_67 (by decide) (fun c_50 => ?_) (fun c_50 => ?_)
                                  ·
                                    exact absurd c_50 (by decide)
                                  ·
                                    refine lv_aload_n hx hb dX7_countRows_70 rfl (lv_at hl 2 rfl) ?_
                                    refine lv_iload_n hx hb dX7_countRows_71 rfl (lv_at hl 0 rfl) ?_
                                    have hPc := hP.sub (ws' := [(a_49, .inr (7, [.ref a_1, .ref a_42, .ref a_50, .ref a_51, .int 0, .ref a_53, .ref a_52, .ref a_54, .ref a_55, .ref a_56])), (a_50, .inl (G.2 1, 24, .inr (.inl f_b))), (a_51, .inl (G.2 0, 1536, .inl (fun _ => 0))), (a_53, .inl (G.2 1, 2048, .inr (.inl z49))), (a_52, .inl (G.2 1, 2048, .inr (.inl z46)))]) [0, 1, 2, 3, 4] rfl
                                    have hDc := hD.sub (ws' := [(a_49, .inr (7, [.ref a_1, .ref a_42, .ref a_50, .ref a_51, .int 0, .ref a_53, .ref a_52, .ref a_54, .ref a_55, .ref a_56])), (a_50, .inl (G.2 1, 24, .inr (.inl f_b))), (a_51, .inl (G.2 0, 1536, .inl (fun _ => 0))), (a_53, .inl (G.2 1, 2048, .inr (.inl z49))), (a_52, .inl (G.2 1, 2048, .inr (.inl z46)))]) [0, 1, 2, 3, 4] (by decide) rfl
                                    have hFc := va_free (wc := [(a_49, .inr (7, [.ref a_1, .ref a_42, .ref a_50, .ref a_51, .int 0, .ref a_53, .ref a_52, .ref a_54, .ref a_55, .ref a_56])), (a_50, .inl (G.2 1, 24, .inr (.inl f_b))), (a_51, .inl (G.2 0, 1536, .inl (fun _ => 0))), (a_53, .inl (G.2 1, 2048, .inr (.inl z49))), (a_52, .inl (G.2 1, 2048, .inr (.inl z46)))]) hD hS hA [0, 1, 2, 3, 4] rfl
                                    refine va_callv (va_runV (As := [.int 16]) (rest := []) ⟨hx, hb, hml, hown, hts⟩ (k_stepTo l G a_49 a_50 a_51 a_53 a_52 a_1 a_42 a_54 a_55 a_56 H.size 16 f_b z49 z46 15 16 ⟨by decide, by decide⟩ (by decide) (rfl) (i_48)) (cwV 1 hts gV_X7_102 rfl rfl rfl hv_X7_stepTo ⟨Nat.le_of_ble_eq_true rfl, Nat.le_of_ble_eq_true rfl⟩) (g5_preV hPc hK hDc hN hT hS hFc (ci := 7) (q0 := 0) rfl rfl) rfl rfl hl.1 rfl (lv_room (Nat.le_of_ble_eq_true rfl)) dX7_countRows_72 ⟨Nat.le_of_ble_eq_true rfl, Nat.le_of_ble_eq_true rfl⟩) hS (fun q _ h => hFc q h) hFc (fun u t H1 locs ht hvm hw hB hz1 hk1 hS => ?_)
                                    obtain ⟨hP1, hD1⟩ := hB
                                    rw [ht] at hP1
                                    obtain ⟨z52, i_51, rfl⟩ := hw
                                    have i_51 : ∀ j : Nat, j < 64 → z52 j = itF f_b 16 j := i_51
                                    obtain ⟨hP, hD⟩ := va_join (wr := []) (w1 := [(a_49, .inr (7, [.ref a_1, .ref a_42, .ref a_50, .ref a_51, .int 0, .ref a_52, .ref a_53, .ref a_54, .ref a_55, .ref a_56])), (a_50, .inl (G.2 1, 24, .inr (.inl f_b))), (a_51, .inl (G.2 0, 1536, .inl (fun _ => 0))), (a_52, .inl (G.2 1, 2048, .inr (.inl z52))), (a_53, .inl (G.2 1, 2048, .inr (.inl z49)))]) hP hD [0, 1, 2, 3, 4] [] rfl rfl (by decide) (by decide) hk1 hFc hP1 hD1
                                    generalize H1 = H at hP hS ⊢
                                    have hP : va_P G.1 vwCl [(a_49, .inr (7, [.ref a_1, .ref a_42, .ref a_50, .ref a_51, .int 0, .ref a_52, .ref a_53, .ref a_54, .ref a_55, .ref a_56])), (a_50, .inl (G.2 1, 24, .inr (.inl f_b))), (a_51, .inl (G.2 0, 1536, .inl (fun _ => 0))), (a_52, .inl (G.2 1, 2048, .inr (.inl z52))), (a_53, .inl (G.2 1, 2048, .inr (.inl z49)))] H := hP
                                    have hD : va_D A [(a_49, .inr (7, [.ref a_1, .ref a_42, .ref a_50, .ref a_51, .int 0, .ref a_52, .ref a_53, .ref a_54, .ref a_55, .ref a_56])), (a_50, .inl (G.2 1, 24, .inr (.inl f_b))), (a_51, .inl (G.2 0, 1536, .inl (fun _ => 0))), (a_52, .inl (G.2 1, 2048, .inr (.inl z52))), (a_53, .inl (G.2 1, 2048, .inr (.inl z49)))] := hD
                                    refine lv_iinc (v := 17) (lv' := [(2, .int 17), (1, .int 1), (0, .ref a_49)]) hx hb dX7_countRows_75 hl (k := 0) rfl (by decide) (by decide) rfl (fun ls hl => ?_)
                                    refine lv_goto (tgt := 64) hx hb dX7_countRows_78 (by decide) ?_
                                    refine lv_iload_n hx hb dX7_countRows_64 rfl (lv_at hl 0 rfl) ?_
                                    refine lv_bipush (v := 24) hx hb dX7_countRows_65 (by decide) ?_
                                    refine lv_icmp_ge (tgt := 81) hx hb dX7_countRows_67 (by decide) (fun c_53 => ?_) (fun c_53 => ?_)
                                    ·
                                      exact absurd c_53 (by decide)
                                    ·
                                      refine lv_aload_n hx hb dX7_countRows_70 rfl (lv_at hl 2 rfl) ?_
                                      refine lv_iload_n hx hb dX7_countRows_71 rfl (lv_at hl 0 rfl) ?_
                                      have hPc := hP.sub (ws' := [(a_49, .inr (7, [.ref a_1, .ref a_42, .ref a_50, .ref a_51, .int 0, .ref a_52, .ref a_53, .ref a_54, .ref a_55, .ref a_56])), (a_50, .inl (G.2 1, 24, .inr (.inl f_b))), (a_51, .inl (G.2 0, 1536, .inl (fun _ => 0))), (a_52, .inl (G.2 1, 2048, .inr (.inl z52))), (a_53, .inl (G.2 1, 2048, .inr (.inl z49)))]) [0, 1, 2, 3, 4] rfl
                                      have hDc := hD.sub (ws' := [(a_49, .inr (7, [.ref a_1, .ref a_42, .ref a_50, .ref a_51, .int 0, .ref a_52, .ref a_53, .ref a_54, .ref a_55, .ref a_56])), (a_50, .inl (G.2 1, 24, .inr (.inl f_b))), (a_51, .inl (G.2 0, 1536, .inl (fun _ => 0))), (a_52, .inl (G.2 1, 2048, .inr (.inl z52))), (a_53, .inl (G.2 1, 2048, .inr (.inl z49)))]) [0, 1, 2, 3, 4] (by decide) rfl
                                      have hFc := va_free (wc := [(a_49, .inr (7, [.ref a_1, .ref a_42, .ref a_50, .ref a_51, .int 0, .ref a_52, .ref a_53, .ref a_54, .ref a_55, .ref a_56])), (a_50, .inl (G.2 1, 24, .inr (.inl f_b))), (a_51, .inl (G.2 0, 1536, .inl (fun _ => 0))), (a_52, .inl (G.2 1, 2048, .inr (.inl z52))), (a_53, .inl (G.2 1, 2048, .inr (.inl z49)))]) hD hS hA [0, 1, 2, 3, 4] rfl
                                      refine va_callv (va_runV (As := [.int 17]) (rest := []) ⟨hx, hb, hml, hown, hts⟩ (k_stepTo l G a_49 a_50 a_51 a_52 a_53 a_1 a_42 a_54 a_55 a_56 H.size 17 f_b z52 z49 16 17 ⟨by decide, by decide⟩ (by decide) (rfl) (i_51)) (cwV 1 hts gV_X7_102 rfl rfl rfl hv_X7_stepTo ⟨Nat.le_of_ble_eq_true rfl, Nat.le_of_ble_eq_true rfl⟩) (g5_preV hPc hK hDc hN hT hS hFc (ci := 7) (q0 := 0) rfl rfl) rfl rfl hl.1 rfl (lv_room (Nat.le_of_ble_eq_true rfl)) dX7_countRows_72 ⟨Nat.le_of_ble_eq_true rfl, Nat.le_of_ble_eq_true rfl⟩) hS (fun q _ h => hFc q h) hFc (fun u t H1 locs ht hvm hw hB hz1 hk1 hS => ?_)
                                      obtain ⟨hP1, hD1⟩ := hB
                                      rw [ht] at hP1
                                      obtain ⟨z55, i_54, rfl⟩ := hw
                                      have i_54 : ∀ j : Nat, j < 64 → z55 j = itF f_b 17 j := i_54
                                      obtain ⟨hP, hD⟩ := va_join (wr := []) (w1 := [(a_49, .inr (7, [.ref a_1, .ref a_42, .ref a_50, .ref a_51, .int 0, .ref a_53, .ref a_52, .ref a_54, .ref a_55, .ref a_56])), (a_50, .inl (G.2 1, 24, .inr (.inl f_b))), (a_51, .inl (G.2 0, 1536, .inl (fun _ => 0))), (a_53, .inl (G.2 1, 2048, .inr (.inl z55))), (a_52, .inl (G.2 1, 2048, .inr (.inl z52)))]) hP hD [0, 1, 2, 3, 4] [] rfl rfl (by decide) (by decide) hk1 hFc hP1 hD1
                                      generalize H1 = H at hP hS ⊢
                                      have hP : va_P G.1 vwCl [(a_49, .inr (7, [.ref a_1, .ref a_42, .ref a_50, .ref a_51, .int 0, .ref a_53, .ref a_52, .ref a_54, .ref a_55, .ref a_56])), (a_50, .inl (G.2 1, 24, .inr (.inl f_b))), (a_51, .inl (G.2 0, 1536, .inl (fun _ => 0))), (a_53, .inl (G.2 1, 2048, .inr (.inl z55))), (a_52, .inl (G.2 1, 2048, .inr (.inl z52)))] H := hP
                                      have hD : va_D A [(a_49, .inr (7, [.ref a_1, .ref a_42, .ref a_50, .ref a_51, .int 0, .ref a_53, .ref a_52, .ref a_54, .ref a_55, .ref a_56])), (a_50, .inl (G.2 1, 24, .inr (.inl f_b))), (a_51, .inl (G.2 0, 1536, .inl (fun _ => 0))), (a_53, .inl (G.2 1, 2048, .inr (.inl z55))), (a_52, .inl (G.2 1, 2048, .inr (.inl z52)))] := hD
                                      refine lv_iinc (v := 18) (lv' := [(2, .int 18), (1, .int 1), (0, .ref a_49)]) hx hb dX7_countRows_75 hl (k := 0) rfl (by decide) (by decide) rfl (fun ls hl => ?_)
                                      refine lv_goto (tgt := 64) hx hb dX7_countRows_78 (by decide) ?_
                                      refine lv_iload_n hx hb dX7_countRows_64 rfl (lv_at hl 0 rfl) ?_
                                      refine lv_bipush (v := 24) hx hb dX7_countRows_65 (by decide) ?_
                                      refine lv_icmp_ge (tgt := 81) hx hb dX7_countRows_67 (by decide) (fun c_56 => ?_) (fun c_56 => ?_)
                                      ·
                                        exact absurd c_56 (by decide)
                                      ·
                                        refine lv_aload_n hx hb dX7_countRows_70 rfl (lv_at hl 2 rfl) ?_
                                        refine lv_iload_n hx hb dX7_countRows_71 rfl (lv_at hl 0 rfl) ?_
                                        have hPc := hP.sub (ws' := [(a_49, .inr (7, [.ref a_1, .ref a_42, .ref a_50, .ref a_51, .int 0, .ref a_53, .ref a_52, .ref a_54, .ref a_55, .ref a_56])), (a_50, .inl (G.2 1, 24, .inr (.inl f_b))), (a_51, .inl (G.2 0, 1536, .inl (fun _ => 0))), (a_53, .inl (G.2 1, 2048, .inr (.inl z55))), (a_52, .inl (G.2 1, 2048, .inr (.inl z52)))]) [0, 1, 2, 3, 4] rfl
                                        have hDc := hD.sub (ws' := [(a_49, .inr (7, [.ref a_1, .ref a_42, .ref a_50, .ref a_51, .int 0, .ref a_53, .ref a_52, .ref a_54, .ref a_55, .ref a_56])), (a_50, .inl (G.2 1, 24, .inr (.inl f_b))), (a_51, .inl (G.2 0, 1536, .inl (fun _ => 0))), (a_53, .inl (G.2 1, 2048, .inr (.inl z55))), (a_52, .inl (G.2 1, 2048, .inr (.inl z52)))]) [0, 1, 2, 3, 4] (by decide) rfl
                                        have hFc := va_free (wc := [(a_49, .inr (7, [.ref a_1, .ref a_42, .ref a_50, .ref a_51, .int 0, .ref a_53, .ref a_52, .ref a_54, .ref a_55, .ref a_56])), (a_50, .inl (G.2 1, 24, .inr (.inl f_b))), (a_51, .inl (G.2 0, 1536, .inl (fun _ => 0))), (a_53, .inl (G.2 1, 2048, .inr (.inl z55))), (a_52, .inl (G.2 1, 2048, .inr (.inl z52)))]) hD hS hA [0, 1, 2, 3, 4] rfl
                                        refine va_callv (va_runV (As := [.int 18]) (rest := []) ⟨hx, hb, hml, hown, hts⟩ (k_stepTo l G a_49 a_50 a_51 a_53 a_52 a_1 a_42 a_54 a_55 a_56 H.size 18 f_b z55 z52 17 18 ⟨by decide, by decide⟩ (by decide) (rfl) (i_54)) (cwV 1 hts gV_X7_102 rfl rfl rfl hv_X7_stepTo ⟨Nat.le_of_ble_eq_true rfl, Nat.le_of_ble_eq_true rfl⟩) (g5_preV hPc hK hDc hN hT hS hFc (ci := 7) (q0 := 0) rfl rfl) rfl rfl hl.1 rfl (lv_room (Nat.le_of_ble_eq_true rfl)) dX7_countRows_72 ⟨Nat.le_of_ble_eq_true rfl, Nat.le_of_ble_eq_true rfl⟩) hS (fun q _ h => hFc q h) hFc (fun u t H1 locs ht hvm hw hB hz1 hk1 hS => ?_)
                                        obtain ⟨hP1, hD1⟩ := hB
                                        rw [ht] at hP1
                                        obtain ⟨z58, i_57, rfl⟩ := hw
                                        have i_57 : ∀ j : Nat, j < 64 → z58 j = itF f_b 18 j := i_57
                                        obtain ⟨hP, hD⟩ := va_join (wr := []) (w1 := [(a_49, .inr (7, [.ref a_1, .ref a_42, .ref a_50, .ref a_51, .int 0, .ref a_52, .ref a_53, .ref a_54, .ref a_55, .ref a_56])), (a_50, .inl (G.2 1, 24, .inr (.inl f_b))), (a_51, .inl (G.2 0, 1536, .inl (fun _ => 0))), (a_52, .inl (G.2 1, 2048, .inr (.inl z58))), (a_53, .inl (G.2 1, 2048, .inr (.inl z55)))]) hP hD [0, 1, 2, 3, 4] [] rfl rfl (by decide) (by decide) hk1 hFc hP1 hD1
                                        generalize H1 = H at hP hS ⊢
                                        have hP : va_P G.1 vwCl [(a_49, .inr (7, [.ref a_1, .ref a_42, .ref a_50, .ref a_51, .int 0, .ref a_52, .ref a_53, .ref a_54, .ref a_55, .ref a_56])), (a_50, .inl (G.2 1, 24, .inr (.inl f_b))), (a_51, .inl (G.2 0, 1536, .inl (fun _ => 0))), (a_52, .inl (G.2 1, 2048, .inr (.inl z58))), (a_53, .inl (G.2 1, 2048, .inr (.inl z55)))] H := hP
                                        have hD : va_D A [(a_49, .inr (7, [.ref a_1, .ref a_42, .ref a_50, .ref a_51, .int 0, .ref a_52, .ref a_53, .ref a_54, .ref a_55, .ref a_56])), (a_50, .inl (G.2 1, 24, .inr (.inl f_b))), (a_51, .inl (G.2 0, 1536, .inl (fun _ => 0))), (a_52, .inl (G.2 1, 2048, .inr (.inl z58))), (a_53, .inl (G.2 1, 2048, .inr (.inl z55)))] := hD
                                        refine lv_iinc (v := 19) (lv' := [(2, .int 19), (1, .int 1), (0, .ref a_49)]) hx hb dX7_countRows_75 hl (k := 0) rfl (by decide) (by decide) rfl (fun ls hl => ?_)
                                        refine lv_goto (tgt := 64) hx hb dX7_countRows_78 (by decide) ?_
                                        refine lv_iload_n hx hb dX7_countRows_64 rfl (lv_at hl 0 rfl) ?_
                                        refine lv_bipush (v := 24) hx hb dX7_countRows_65 (by decide) ?_
                                        refine lv_icmp_ge (tgt := 81) hx hb dX7_countRows_67 (by decide) (fun c_59 => ?_) (fun c_59 => ?_)
                                        ·
                                          exact absurd c_59 (by decide)
                                        ·
                                          refine lv_aload_n hx hb dX7_countRows_70 rfl (lv_at hl 2 rfl) ?_
                                          refine lv_iload_n hx hb dX7_countRows_71 rfl (lv_at hl 0 rfl) ?_
                                          have hPc := hP.sub (ws' := [(a_49, .inr (7, [.ref a_1, .ref a_42, .ref a_50, .ref a_51, .int 0, .ref a_52, .ref a_53, .ref a_54, .ref a_55, .ref a_56])), (a_50, .inl (G.2 1, 24, .inr (.inl f_b))), (a_51, .inl (G.2 0, 1536, .inl (fun _ => 0))), (a_52, .inl (G.2 1, 2048, .inr (.inl z58))), (a_53, .inl (G.2 1, 2048, .inr (.inl z55)))]) [0, 1, 2, 3, 4] rfl
                                          have hDc := hD.sub (ws' := [(a_49, .inr (7, [.ref a_1, .ref a_42, .ref a_50, .ref a_51, .int 0, .ref a_52, .ref a_53, .ref a_54, .ref a_55, .ref a_56])), (a_50, .inl (G.2 1, 24, .inr (.inl f_b))), (a_51, .inl (G.2 0, 1536, .inl (fun _ => 0))), (a_52, .inl (G.2 1, 2048, .inr (.inl z58))), (a_53, .inl (G.2 1, 2048, .inr (.inl z55)))]) [0, 1, 2, 3, 4] (by decide) rfl
                                          have hFc := va_free (wc := [(a_49, .inr (7, [.ref a_1, .ref a_42, .ref a_50, .ref a_51, .int 0, .ref a_52, .ref a_53, .ref a_54, .ref a_55, .ref a_56])), (a_50, .inl (G.2 1, 24, .inr (.inl f_b))), (a_51, .inl (G.2 0, 1536, .inl (fun _ => 0))), (a_52, .inl (G.2 1, 2048, .inr (.inl z58))), (a_53, .inl (G.2 1, 2048, .inr (.inl z55)))]) hD hS hA [0, 1, 2, 3, 4] rfl
                                          refine va_callv (va_runV (As := [.int 19]) (rest := []) ⟨hx, hb, hml, hown, hts⟩ (k_stepTo l G a_49 a_50 a_51 a_52 a_53 a_1 a_42 a_54 a_55 a_56 H.size 19 f_b z58 z55 18 19 ⟨by decide, by decide⟩ (by decide) (rfl) (i_57)) (cwV 1 hts gV_X7_102 rfl rfl rfl hv_X7_stepTo ⟨Nat.le_of_ble_eq_true rfl, Nat.le_of_ble_eq_true rfl⟩) (g5_preV hPc hK hDc hN hT hS hFc (ci := 7) (q0 := 0) rfl rfl) rfl rfl hl.1 rfl (lv_room (Nat.le_of_ble_eq_true rfl)) dX7_countRows_72 ⟨Nat.le_of_ble_eq_true rfl, Nat.le_of_ble_eq_true rfl⟩) hS (fun q _ h => hFc q h) hFc (fun u t H1 locs ht hvm hw hB hz1 hk1 hS => ?_)
                                          obtain ⟨hP1, hD1⟩ := hB
                                          rw [ht] at hP1
                                          obtain ⟨z61, i_60, rfl⟩ := hw
                                          have i_60 : ∀ j : Nat, j < 64 → z61 j = itF f_b 19 j := i_60
                                          obtain ⟨hP, hD⟩ := va_join (wr := []) (w1 := [(a_49, .inr (7, [.ref a_1, .ref a_42, .ref a_50, .ref a_51, .int 0, .ref a_53, .ref a_52, .ref a_54, .ref a_55, .ref a_56])), (a_50, .inl (G.2 1, 24, .inr (.inl f_b))), (a_51, .inl (G.2 0, 1536, .inl (fun _ => 0))), (a_53, .inl (G.2 1, 2048, .inr (.inl z61))), (a_52, .inl (G.2 1, 2048, .inr (.inl z58)))]) hP hD [0, 1, 2, 3, 4] [] rfl rfl (by decide) (by decide) hk1 hFc hP1 hD1
                                          generalize H1 = H at hP hS ⊢
                                          have hP : va_P G.1 vwCl [(a_49, .inr (7, [.ref a_1, .ref a_42, .ref a_50, .ref a_51, .int 0, .ref a_53, .ref a_52, .ref a_54, .ref a_55, .ref a_56])), (a_50, .inl (G.2 1, 24, .inr (.inl f_b))), (a_51, .inl (G.2 0, 1536, .inl (fun _ => 0))), (a_53, .inl (G.2 1, 2048, .inr (.inl z61))), (a_52, .inl (G.2 1, 2048, .inr (.inl z58)))] H := hP
                                          have hD : va_D A [(a_49, .inr (7, [.ref a_1, .ref a_42, .ref a_50, .ref a_51, .int 0, .ref a_53, .ref a_52, .ref a_54, .ref a_55, .ref a_56])), (a_50, .inl (G.2 1, 24, .inr (.inl f_b))), (a_51, .inl (G.2 0, 1536, .inl (fun _ => 0))), (a_53, .inl (G.2 1, 2048, .inr (.inl z61))), (a_52, .inl (G.2 1, 2048, .inr (.inl z58)))] := hD
                                          refine lv_iinc (v := 20) (lv' := [(2, .int 20), (1, .int 1), (0, .ref a_49)]) hx hb dX7_countRows_75 hl (k := 0) rfl (by decide) (by decide) rfl (fun ls hl => ?_)
                                          refine lv_goto (tgt := 64) hx hb dX7_countRows_78 (by decide) ?_
                                          refine lv_iload_n hx hb dX7_countRows_64 rfl (lv_at hl 0 rfl) ?_
                                          refine lv_bipush (v := 24) hx hb dX7_countRows_65 (by decide) ?_
                                          refine lv_icmp_ge (tgt := 81) hx hb dX7_countRows_67 (by decide) (fun c_62 => ?_) (fun c_62 => ?_)
                                          ·
                                            exact absurd c_62 (by decide)
                                          ·
                                            refine lv_aload_n hx hb dX7_countRows_70 rfl (lv_at hl 2 rfl) ?_
                                            refine lv_iload_n hx hb dX7_countRows_71 rfl (lv_at hl 0 rfl) ?_
                                            have hPc := hP.sub (ws' := [(a_49, .inr (7, [.ref a_1, .ref a_42, .ref a_50, .ref a_51, .int 0, .ref a_53, .ref a_52, .ref a_54, .ref a_55, .ref a_56])), (a_50, .inl (G.2 1, 24, .inr (.inl f_b))), (a_51, .inl (G.2 0, 1536, .inl (fun _ => 0))), (a_53, .inl (G.2 1, 2048, .inr (.inl z61))), (a_52, .inl (G.2 1, 2048, .inr (.inl z58)))]) [0, 1, 2, 3, 4] rfl
                                            have hDc := hD.sub (ws' := [(a_49, .inr (7, [.ref a_1, .ref a_42, .ref a_50, .ref a_51, .int 0, .ref a_53, .ref a_52, .ref a_54, .ref a_55, .ref a_56])), (a_50, .inl (G.2 1, 24, .inr (.inl f_b))), (a_51, .inl (G.2 0, 1536, .inl (fun _ => 0))), (a_53, .inl (G.2 1, 2048, .inr (.inl z61))), (a_52, .inl (G.2 1, 2048, .inr (.inl z58)))]) [0, 1, 2, 3, 4] (by decide) rfl
                                            have hFc := va_free (wc := [(a_49, .inr (7, [.ref a_1, .ref a_42, .ref a_50, .ref a_51, .int 0, .ref a_53, .ref a_52, .ref a_54, .ref a_55, .ref a_56])), (a_50, .inl (G.2 1, 24, .inr (.inl f_b))), (a_51, .inl (G.2 0, 1536, .inl (fun _ => 0))), (a_53, .inl (G.2 1, 2048, .inr (.inl z61))), (a_52, .inl (G.2 1, 2048, .inr (.inl z58)))]) hD hS hA [0, 1, 2, 3, 4] rfl
                                            refine va_callv (va_runV (As := [.int 20]) (rest := []) ⟨hx, hb, hml, hown, hts⟩ (k_stepTo l G a_49 a_50 a_51 a_53 a_52 a_1 a_42 a_54 a_55 a_56 H.size 20 f_b z61 z58 19 20 ⟨by decide, by decide⟩ (by decide) (rfl) (i_60)) (cwV 1 hts gV_X7_102 rfl rfl rfl hv_X7_stepTo ⟨Nat.le_of_ble_eq_true rfl, Nat.le_of_ble_eq_true rfl⟩) (g5_preV hPc hK hDc hN hT hS hFc (ci := 7) (q0 := 0) rfl rfl) rfl rfl hl.1 rfl (lv_room (Nat.le_of_ble_eq_true rfl)) dX7_countRows_72 ⟨Nat.le_of_ble_eq_true rfl, Nat.le_of_ble_eq_true rfl⟩) hS (fun q _ h => hFc q h) hFc (fun u t H1 locs ht hvm hw hB hz1 hk1 hS => ?_)
                                            obtain ⟨hP1, hD1⟩ := hB
                                            rw [ht] at hP1
                                            obtain ⟨z64, i_63, rfl⟩ := hw
                                            have i_63 : ∀ j : Nat, j < 64 → z64 j = itF f_b 20 j := i_63
                                            obtain ⟨hP, hD⟩ := va_join (wr := []) (w1 := [(a_49, .inr (7, [.ref a_1, .ref a_42, .ref a_50, .ref a_51, .int 0, .ref a_52, .ref a_53, .ref a_54, .ref a_55, .ref a_56])), (a_50, .inl (G.2 1, 24, .inr (.inl f_b))), (a_51, .inl (G.2 0, 1536, .inl (fun _ => 0))), (a_52, .inl (G.2 1, 2048, .inr (.inl z64))), (a_53, .inl (G.2 1, 2048, .inr (.inl z61)))]) hP hD [0, 1, 2, 3, 4] [] rfl rfl (by decide) (by decide) hk1 hFc hP1 hD1
                                            generalize H1 = H at hP hS ⊢
                                            have hP : va_P G.1 vwCl [(a_49, .inr (7, [.ref a_1, .ref a_42, .ref a_50, .ref a_51, .int 0, .ref a_52, .ref a_53, .ref a_54, .ref a_55, .ref a_56])), (a_50, .inl (G.2 1, 24, .inr (.inl f_b))), (a_51, .inl (G.2 0, 1536, .inl (fun _ => 0))), (a_52, .inl (G.2 1, 2048, .inr (.inl z64))), (a_53, .inl (G.2 1, 2048, .inr (.inl z61)))] H := hP
                                            have hD : va_D A [(a_49, .inr (7, [.ref a_1, .ref a_42, .ref a_50, .ref a_51, .int 0, .ref a_52, .ref a_53, .ref a_54, .ref a_55, .ref a_56])), (a_50, .inl (G.2 1, 24, .inr (.inl f_b))), (a_51, .inl (G.2 0, 1536, .inl (fun _ => 0))), (a_52, .inl (G.2 1, 2048, .inr (.inl z64))), (a_53, .inl (G.2 1, 2048, .inr (.inl z61)))] := hD
                                            refine lv_iinc (v := 21) (lv' := [(2, .int 21), (1, .int 1), (0, .ref a_49)]) hx hb dX7_countRows_75 hl (k := 0) rfl (by decide) (by decide) rfl (fun ls hl => ?_)
                                            refine lv_goto (tgt := 64) hx hb dX7_countRows_78 (by decide) ?_
                                            refine lv_iload_n hx hb dX7_countRows_64 rfl (lv_at hl 0 rfl) ?_
                                            refine lv_bipush (v := 24) hx hb dX7_countRows_65 (by decide) ?_
                                            refine lv_icmp_ge (tgt := 81) hx hb dX7_countRows_67 (by decide) (fun c_65 => ?_) (fun c_65 => ?_)
                                            ·
                                              exact absurd c_65 (by decide)
                                            ·
                                              refine lv_aload_n hx hb dX7_countRows_70 rfl (lv_at hl 2 rfl) ?_
                                              refine lv_iload_n hx hb dX7_countRows_71 rfl (lv_at hl 0 rfl) ?_
                                              have hPc := hP.sub (ws' := [(a_49, .inr (7, [.ref a_1, .ref a_42, .ref a_50, .ref a_51, .int 0, .ref a_52, .ref a_53, .ref a_54, .ref a_55, .ref a_56])), (a_50, .inl (G.2 1, 24, .inr (.inl f_b))), (a_51, .inl (G.2 0, 1536, .inl (fun _ => 0))), (a_52, .inl (G.2 1, 2048, .inr (.inl z64))), (a_53, .inl (G.2 1, 2048, .inr (.inl z61)))]) [0, 1, 2, 3, 4] rfl
                                              have hDc := hD.sub (ws' := [(a_49, .inr (7, [.ref a_1, .ref a_42, .ref a_50, .ref a_51, .int 0, .ref a_52, .ref a_53, .ref a_54, .ref a_55, .ref a_56])), (a_50, .inl (G.2 1, 24, .inr (.inl f_b))), (a_51, .inl (G.2 0, 1536, .inl (fun _ => 0))), (a_52, .inl (G.2 1, 2048, .inr (.inl z64))), (a_53, .inl (G.2 1, 2048, .inr (.inl z61)))]) [0, 1, 2, 3, 4] (by decide) rfl
                                              have hFc := va_free (wc := [(a_49, .inr (7, [.ref a_1, .ref a_42, .ref a_50, .ref a_51, .int 0, .ref a_52, .ref a_53, .ref a_54, .ref a_55, .ref a_56])), (a_50, .inl (G.2 1, 24, .inr (.inl f_b))), (a_51, .inl (G.2 0, 1536, .inl (fun _ => 0))), (a_52, .inl (G.2 1, 2048, .inr (.inl z64))), (a_53, .inl (G.2 1, 2048, .inr (.inl z61)))]) hD hS hA [0, 1, 2, 3, 4] rfl
                                              refine va_callv (va_runV (As := [.int 21]) (rest := []) ⟨hx, hb, hml, hown, hts⟩ (k_stepTo l G a_49 a_50 a_51 a_52 a_53 a_1 a_42 a_54 a_55 a_56 H.size 21 f_b z64 z61 20 21 ⟨by decide, by decide⟩ (by decide) (rfl) (i_63)) (cwV 1 hts gV_X7_102 rfl rfl rfl hv_X7_stepTo ⟨Nat.le_of_ble_eq_true rfl, Nat.le_of_ble_eq_true rfl⟩) (g5_preV hPc hK hDc hN hT hS hFc (ci := 7) (q0 := 0) rfl rfl) rfl rfl hl.1 rfl (lv_room (Nat.le_of_ble_eq_true rfl)) dX7_countRows_72 ⟨Nat.le_of_ble_eq_true rfl, Nat.le_of_ble_eq_true rfl⟩) hS (fun q _ h => hFc q h) hFc (fun u t H1 locs ht hvm hw hB hz1 hk1 hS => ?_)
                                              obtain ⟨hP1, hD1⟩ := hB
                                              rw [ht] at hP1
                                              obtain ⟨z67, i_66, rfl⟩ := hw
                                              have i_66 : ∀ j : Nat, j < 64 → z67 j = itF f_b 21 j := i_66
                                              obtain ⟨hP, hD⟩ := va_join (wr := []) (w1 := [(a_49, .inr (7, [.ref a_1, .ref a_42, .ref a_50, .ref a_51, .int 0, .ref a_53, .ref a_52, .ref a_54, .ref a_55, .ref a_56])), (a_50, .inl (G.2 1, 24, .inr (.inl f_b))), (a_51, .inl (G.2 0, 1536, .inl (fun _ => 0))), (a_53, .inl (G.2 1, 2048, .inr (.inl z67))), (a_52, .inl (G.2 1, 2048, .inr (.inl z64)))]) hP hD [0, 1, 2, 3, 4] [] rfl rfl (by decide) (by decide) hk1 hFc hP1 hD1
                                              generalize H1 = H at hP hS ⊢
                                              have hP : va_P G.1 vwCl [(a_49, .inr (7, [.ref a_1, .ref a_42, .ref a_50, .ref a_51, .int 0, .ref a_53, .ref a_52, .ref a_54, .ref a_55, .ref a_56])), (a_50, .inl (G.2 1, 24, .inr (.inl f_b))), (a_51, .inl (G.2 0, 1536, .inl (fun _ => 0))), (a_53, .inl (G.2 1, 2048, .inr (.inl z67))), (a_52, .inl (G.2 1, 2048, .inr (.inl z64)))] H := hP
                                              have hD : va_D A [(a_49, .inr (7, [.ref a_1, .ref a_42, .ref a_50, .ref a_51, .int 0, .ref a_53, .ref a_52, .ref a_54, .ref a_55, .ref a_56])), (a_50, .inl (G.2 1, 24, .inr (.inl f_b))), (a_51, .inl (G.2 0, 1536, .inl (fun _ => 0))), (a_53, .inl (G.2 1, 2048, .inr (.inl z67))), (a_52, .inl (G.2 1, 2048, .inr (.inl z64)))] := hD
                                              refine lv_iinc (v := 22) (lv' := [(2, .int 22), (1, .int 1), (0, .ref a_49)]) hx hb dX7_countRows_75 hl (k := 0) rfl (by decide) (by decide) rfl (fun ls hl => ?_)
                                              refine lv_goto (tgt := 64) hx hb dX7_countRows_78 (by decide) ?_
                                              refine lv_iload_n hx hb dX7_countRows_64 rfl (lv_at hl 0 rfl) ?_
                                              refine lv_bipush (v := 24) hx hb dX7_countRows_65 (by decide) ?_
                                              refine lv_icmp_ge (tgt := 81) hx hb dX7_countRows_67 (by decide) (fun c_68 => ?_) (fun c_68 => ?_)
                                              ·
                                                exact absurd c_68 (by decide)
                                              ·
                                                refine lv_aload_n hx hb dX7_countRows_70 rfl (lv_at hl 2 rfl) ?_
                                                refine lv_iload_n hx hb dX7_countRows_71 rfl (lv_at hl 0 rfl) ?_
                                                have hPc := hP.sub (ws' := [(a_49, .inr (7, [.ref a_1, .ref a_42, .ref a_50, .ref a_51, .int 0, .ref a_53, .ref a_52, .ref a_54, .ref a_55, .ref a_56])), (a_50, .inl (G.2 1, 24, .inr (.inl f_b))), (a_51, .inl (G.2 0, 1536, .inl (fun _ => 0))), (a_53, .inl (G.2 1, 2048, .inr (.inl z67))), (a_52, .inl (G.2 1, 2048, .inr (.inl z64)))]) [0, 1, 2, 3, 4] rfl
                                                have hDc := hD.sub (ws' := [(a_49, .inr (7, [.ref a_1, .ref a_42, .ref a_50, .ref a_51, .int 0, .ref a_53, .ref a_52, .ref a_54, .ref a_55, .ref a_56])), (a_50, .inl (G.2 1, 24, .inr (.inl f_b))), (a_51, .inl (G.2 0, 1536, .inl (fun _ => 0))), (a_53, .inl (G.2 1, 2048, .inr (.inl z67))), (a_52, .inl (G.2 1, 2048, .inr (.inl z64)))]) [0, 1, 2, 3, 4] (by decide) rfl
                                                have hFc := va_free (wc := [(a_49, .inr (7, [.ref a_1, .ref a_42, .ref a_50, .ref a_51, .int 0, .ref a_53, .ref a_52, .ref a_54, .ref a_55, .ref a_56])), (a_50, .inl (G.2 1, 24, .inr (.inl f_b))), (a_51, .inl (G.2 0, 1536, .inl (fun _ => 0))), (a_53, .inl (G.2 1, 2048, .inr (.inl z67))), (a_52, .inl (G.2 1, 2048, .inr (.inl z64)))]) hD hS hA [0, 1, 2, 3, 4] rfl
                                                refine va_callv (va_runV (As := [.int 22]) (rest := []) ⟨hx, hb, hml, hown, hts⟩ (k_stepTo l G a_49 a_50 a_51 a_53 a_52 a_1 a_42 a_54 a_55 a_56 H.size 22 f_b z67 z64 21 22 ⟨by decide, by decide⟩ (by decide) (rfl) (i_66)) (cwV 1 hts gV_X7_102 rfl rfl rfl hv_X7_stepTo ⟨Nat.le_of_ble_eq_true rfl, Nat.le_of_ble_eq_true rfl⟩) (g5_preV hPc hK hDc hN hT hS hFc (ci := 7) (q0 := 0) rfl rfl) rfl rfl hl.1 rfl (lv_room (Nat.le_of_ble_eq_true rfl)) dX7_countRows_72 ⟨Nat.le_of_ble_eq_true rfl, Nat.le_of_ble_eq_true rfl⟩) hS (fun q _ h => hFc q h) hFc (fun u t H1 locs ht hvm hw hB hz1 hk1 hS => ?_)
                                                obtain ⟨hP1, hD1⟩ := hB
                                                rw [ht] at hP1
                                                obtain ⟨z70, i_69, rfl⟩ := hw
                                                have i_69 : ∀ j : Nat, j < 64 → z70 j = itF f_b 22 j := i_69
                                                obtain ⟨hP, hD⟩ := va_join (wr := []) (w1 := [(a_49, .inr (7, [.ref a_1, .ref a_42, .ref a_50, .ref a_51, .int 0, .ref a_52, .ref a_53, .ref a_54, .ref a_55, .ref a_56])), (a_50, .inl (G.2 1, 24, .inr (.inl f_b))), (a_51, .inl (G.2 0, 1536, .inl (fun _ => 0))), (a_52, .inl (G.2 1, 2048, .inr (.inl z70))), (a_53, .inl (G.2 1, 2048, .inr (.inl z67)))]) hP hD [0, 1, 2, 3, 4] [] rfl rfl (by decide) (by decide) hk1 hFc hP1 hD1
                                                generalize H1 = H at hP hS ⊢
                                                have hP : va_P G.1 vwCl [(a_49, .inr (7, [.ref a_1, .ref a_42, .ref a_50, .ref a_51, .int 0, .ref a_52, .ref a_53, .ref a_54, .ref a_55, .ref a_56])), (a_50, .inl (G.2 1, 24, .inr (.inl f_b))), (a_51, .inl (G.2 0, 1536, .inl (fun _ => 0))), (a_52, .inl (G.2 1, 2048, .inr (.inl z70))), (a_53, .inl (G.2 1, 2048, .inr (.inl z67)))] H := hP
                                                have hD : va_D A [(a_49, .inr (7, [.ref a_1, .ref a_42, .ref a_50, .ref a_51, .int 0, .ref a_52, .ref a_53, .ref a_54, .ref a_55, .ref a_56])), (a_50, .inl (G.2 1, 24, .inr (.inl f_b))), (a_51, .inl (G.2 0, 1536, .inl (fun _ => 0))), (a_52, .inl (G.2 1, 2048, .inr (.inl z70))), (a_53, .inl (G.2 1, 2048, .inr (.inl z67)))] := hD
                                                refine lv_iinc (v := 23) (lv' := [(2, .int 23), (1, .int 1), (0, .ref a_49)]) hx hb dX7_countRows_75 hl (k := 0) rfl (by decide) (by decide) rfl (fun ls hl => ?_)
                                                refine lv_goto (tgt := 64) hx hb dX7_countRows_78 (by decide) ?_
                                                refine lv_iload_n hx hb dX7_countRows_64 rfl (lv_at hl 0 rfl) ?_
                                                refine lv_bipush (v := 24) hx hb dX7_countRows_65 (by decide) ?_
                                                refine lv_icmp_ge (tgt := 81) hx hb dX7_countRows_67 (by decide) (fun c_71 => ?_) (fun c_71 => ?_)
                                                ·
                                                  exact absurd c_71 (by decide)
                                                ·
                                                  refine lv_aload_n hx hb dX7_countRows_70 rfl (lv_at hl 2 rfl) ?_
                                                  refine lv_iload_n hx hb dX7_countRows_71 rfl (lv_at hl 0 rfl) ?_
                                                  have hPc := hP.sub (ws' := [(a_49, .inr (7, [.ref a_1, .ref a_42, .ref a_50, .ref a_51, .int 0, .ref a_52, .ref a_53, .ref a_54, .ref a_55, .ref a_56])), (a_50, .inl (G.2 1, 24, .inr (.inl f_b))), (a_51, .inl (G.2 0, 1536, .inl (fun _ => 0))), (a_52, .inl (G.2 1, 2048, .inr (.inl z70))), (a_53, .inl (G.2 1, 2048, .inr (.inl z67)))]) [0, 1, 2, 3, 4] rfl
                                                  have hDc := hD.sub (ws' := [(a_49, .inr (7, [.ref a_1, .ref a_42, .ref a_50, .ref a_51, .int 0, .ref a_52, .ref a_53, .ref a_54, .ref a_55, .ref a_56])), (a_50, .inl (G.2 1, 24, .inr (.inl f_b))), (a_51, .inl (G.2 0, 1536, .inl (fun _ => 0))), (a_52, .inl (G.2 1, 2048, .inr (.inl z70))), (a_53, .inl (G.2 1, 2048, .inr (.inl z67)))]) [0, 1, 2, 3, 4] (by decide) rfl
                                                  have hFc := va_free (wc := [(a_49, .inr (7, [.ref a_1, .ref a_42, .ref a_50, .ref a_51, .int 0, .ref a_52, .ref a_53, .ref a_54, .ref a_55, .ref a_56])), (a_50, .inl (G.2 1, 24, .inr (.inl f_b))), (a_51, .inl (G.2 0, 1536, .inl (fun _ => 0))), (a_52, .inl (G.2 1, 2048, .inr (.inl z70))), (a_53, .inl (G.2 1, 2048, .inr (.inl z67)))]) hD hS hA [0, 1, 2, 3, 4] rfl
                                                  refine va_callv (va_runV (As := [.int 23]) (rest := []) ⟨hx, hb, hml, hown, hts⟩ (k_stepTo l G a_49 a_50 a_51 a_52 a_53 a_1 a_42 a_54 a_55 a_56 H.size 23 f_b z70 z67 22 23 ⟨by decide, by decide⟩ (by decide) (rfl) (i_69)) (cwV 1 hts gV_X7_102 rfl rfl rfl hv_X7_stepTo ⟨Nat.le_of_ble_eq_true rfl, Nat.le_of_ble_eq_true rfl⟩) (g5_preV hPc hK hDc hN hT hS hFc (ci := 7) (q0 := 0) rfl rfl) rfl rfl hl.1 rfl (lv_room (Nat.le_of_ble_eq_true rfl)) dX7_countRows_72 ⟨Nat.le_of_ble_eq_true rfl, Nat.le_of_ble_eq_true rfl⟩) hS (fun q _ h => hFc q h) hFc (fun u t H1 locs ht hvm hw hB hz1 hk1 hS => ?_)
                                                  obtain ⟨hP1, hD1⟩ := hB
                                                  rw [ht] at hP1
                                                  obtain ⟨z73, i_72, rfl⟩ := hw
                                                  have i_72 : ∀ j : Nat, j < 64 → z73 j = itF f_b 23 j := i_72
                                                  obtain ⟨hP, hD⟩ := va_join (wr := []) (w1 := [(a_49, .inr (7, [.ref a_1, .ref a_42, .ref a_50, .ref a_51, .int 0, .ref a_53, .ref a_52, .ref a_54, .ref a_55, .ref a_56])), (a_50, .inl (G.2 1, 24, .inr (.inl f_b))), (a_51, .inl (G.2 0, 1536, .inl (fun _ => 0))), (a_53, .inl (G.2 1, 2048, .inr (.inl z73))), (a_52, .inl (G.2 1, 2048, .inr (.inl z70)))]) hP hD [0, 1, 2, 3, 4] [] rfl rfl (by decide) (by decide) hk1 hFc hP1 hD1
                                                  generalize H1 = H at hP hS ⊢
                                                  have hP : va_P G.1 vwCl [(a_49, .inr (7, [.ref a_1, .ref a_42, .ref a_50, .ref a_51, .int 0, .ref a_53, .ref a_52, .ref a_54, .ref a_55, .ref a_56])), (a_50, .inl (G.2 1, 24, .inr (.inl f_b))), (a_51, .inl (G.2 0, 1536, .inl (fun _ => 0))), (a_53, .inl (G.2 1, 2048, .inr (.inl z73))), (a_52, .inl (G.2 1, 2048, .inr (.inl z70)))] H := hP
                                                  have hD : va_D A [(a_49, .inr (7, [.ref a_1, .ref a_42, .ref a_50, .ref a_51, .int 0, .ref a_53, .ref a_52, .ref a_54, .ref a_55, .ref a_56])), (a_50, .inl (G.2 1, 24, .inr (.inl f_b))), (a_51, .inl (G.2 0, 1536, .inl (fun _ => 0))), (a_53, .inl (G.2 1, 2048, .inr (.inl z73))), (a_52, .inl (G.2 1, 2048, .inr (.inl z70)))] := hD
                                                  refine lv_iinc (v := 24) (lv' := [(2, .int 24), (1, .int 1), (0, .ref a_49)]) hx hb dX7_countRows_75 hl (k := 0) rfl (by decide) (by decide) rfl (fun ls hl => ?_)
                                                  refine lv_goto (tgt := 64) hx hb dX7_countRows_78 (by decide) ?_
                                                  refine lv_iload_n hx hb dX7_countRows_64 rfl (lv_at hl 0 rfl) ?_
                                                  refine lv_bipush (v := 24) hx hb dX7_countRows_65 (by decide) ?_
                                                  refine lv_icmp_ge (tgt := 81) hx hb dX7_countRows_67 (by decide) (fun c_74 => ?_) (fun c_74 => ?_)
                                                  ·
                                                    refine lv_lconst (v := 0) hx hb dX7_countRows_81 (by decide) ?_
                                                    refine lv_lstore_n (lv' := [(2, .long 0), (1, .int 1), (0, .ref a_49)]) hx hb dX7_countRows_82 rfl hl (by decide) rfl (fun ls hl => ?_)
                                                    refine lv_iconst (v := 0) hx hb dX7_countRows_83 (by decide) ?_
                                                    refine lv_istore (lv' := [(4, .int 0), (2, .long 0), (1, .int 1), (0, .ref a_49)]) hx hb dX7_countRows_84 hl (by decide) rfl (fun ls hl => ?_)
                                                    refine g5_loop (α := (Int32) × (Int64)) (fun (q : (Int32) × (Int64)) (ls : Array Slot) (H : Heap) (locs : List Loc) => match q with | (k_i, k_s) => lv_has ls 5 [(2, .long k_s), (4, .int k_i), (1, .int 1), (0, .ref a_49)] ∧ va_P G.1 vwCl [(a_49, .inr (7, [.ref a_1, .ref a_42, .ref a_50, .ref a_51, .int 0, .ref a_53, .ref a_52, .ref a_54, .ref a_55, .ref a_56])), (a_50, .inl (G.2 1, 24, .inr (.inl f_b))), (a_51, .inl (G.2 0, 1536, .inl (fun _ => 0))), (a_53, .inl (G.2 1, 2048, .inr (.inl z73))), (a_52, .inl (G.2 1, 2048, .inr (.inl z70)))] H ∧ va_D A [(a_49, .inr (7, [.ref a_1, .ref a_42, .ref a_50, .ref a_51, .int 0, .ref a_53, .ref a_52, .ref a_54, .ref a_55, .ref a_56])), (a_50, .inl (G.2 1, 24, .inr (.inl f_b))), (a_51, .inl (G.2 0, 1536, .inl (fun _ => 0))), (a_53, .inl (G.2 1, 2048, .inr (.inl z73))), (a_52, .inl (G.2 1, 2048, .inr (.inl z70)))] ∧ va_S A s.heap H locs ∧ (0 ≤ k_i.toInt ∧ k_i.toInt ≤ 64) ∧ (k_s = sumF z73 k_i.toInt.toNat)) (fun (q : (Int32) × (Int64)) => match q with | (k_i, k_s) => Int.toNat (64 - k_i.toInt)) (0, 0) ⟨lv_sub hl [1, 0, 2, 3] rfl, hP, hD, hS, ⟨by decide, by decide⟩, rfl⟩ ?_
                                                    rintro ⟨k_i, k_s⟩ ls H locs ⟨hl, hP, hD, hS, i_75, i_76⟩ ih_86_77
                                                    have hl : lv_has ls 5 [(2, .long k_s), (4, .int k_i), (1, .int 1), (0, .ref a_49)] := hl
                                                    have i_75 : 0 ≤ k_i.toInt ∧ k_i.toInt ≤ 64 := i_75
                                                    have i_76 : k_s = sumF z73 k_i.toInt.toNat := i_76
                                                    have hP : va_P G.1 vwCl [(a_49, .inr (7, [.ref a_1, .ref a_42, .ref a_50, .ref a_51, .int 0, .ref a_53, .ref a_52, .ref a_54, .ref a_55, .ref a_56])), (a_50, .inl (G.2 1, 24, .inr (.inl f_b))), (a_51, .inl (G.2 0, 1536, .inl (fun _ => 0))), (a_53, .inl (G.2 1, 2048, .inr (.inl z73))), (a_52, .inl (G.2 1, 2048, .inr (.inl z70)))] H := hP
                                                    have hD : va_D A [(a_49, .inr (7, [.ref a_1, .ref a_42, .ref a_50, .ref a_51, .int 0, .ref a_53, .ref a_52, .ref a_54, .ref a_55, .ref a_56])), (a_50, .inl (G.2 1, 24, .inr (.inl f_b))), (a_51, .inl (G.2 0, 1536, .inl (fun _ => 0))), (a_53, .inl (G.2 1, 2048, .inr (.inl z73))), (a_52, .inl (G.2 1, 2048, .inr (.inl z70)))] := hD
                                                    refine lv_iload hx hb dX7_countRows_86 (lv_at hl 1 rfl) ?_
                                                    refine lv_bipush (v := 64) hx hb dX7_countRows_88 (by decide) ?_
                                                    refine lv_icmp_ge (tgt := 116) hx hb dX7_countRows_90 (by decide) (fun c_78 => ?_) (fun c_78 => ?_)
                                                    ·
                                                      have i_78 : k_i.toInt ≥ 64 := by have z := g5_ge (a := k_i.toInt) (b := 64) (by rfl) (by decide) c_78; omega
                                                      refine lv_lload_n hx hb dX7_countRows_116 rfl (lv_at hl 0 rfl) ?_
                                                      exact W.lret (v := k_s) hx hb hr (fun t ht hW => ⟨⟨k_s, [(a_49, .inr (7, [.ref a_1, .ref a_42, .ref a_50, .ref a_51, .int 0, .ref a_53, .ref a_52, .ref a_54, .ref a_55, .ref a_56])), (a_50, .inl (G.2 1, 24, .inr (.inl f_b))), (a_51, .inl (G.2 0, 1536, .inl (fun _ => 0))), (a_52, .inl (G.2 1, 2048, .inr (.inl z70))), (a_53, .inl (G.2 1, 2048, .inr (.inl z73)))], rfl, ⟨k_s, z70, z73, g5_cnt i_76 (by omega) i_72, rfl, rfl⟩, by rw [ht]; exact hP.sub [0, 1, 2, 4, 3] rfl, hD.sub [0, 1, 2, 4, 3] (by decide) rfl⟩, hS.F ht⟩) hS.2.2 dX7_countRows_117
                                                    ·
                                                      have i_78 : k_i.toInt < 64 := by have z := g5_geN (a := k_i.toInt) (b := 64) (by rfl) (by decide) c_78; omega
                                                      refine lv_lload_n hx hb dX7_countRows_93 rfl (lv_at hl 0 rfl) ?_
                                                      refine lv_aload_n hx hb dX7_countRows_94 rfl (lv_at hl 3 rfl) ?_
                                                      refine va_get (D := G.1) (ci := 7) (v := .ref a_53) (C := RX7) (T := TX7) (N := 10) hx hb hts inG_X7 hown hK hP 0 rfl rfl 5 (by decide) (hts _ fl_X7_19) (fun _ h9 => h9) rfl dX7_countRows_95 ?_
                                                      refine lv_iload hx hb dX7_countRows_98 (lv_at hl 1 rfl) ?_
                                                      refine lv_iload_n hx hb dX7_countRows_100 rfl (lv_at hl 2 rfl) ?_
                                                      refine lv_imul hx hb dX7_countRows_101 ?_
                                                      refine g5_ti (v := k_i) (by simp) ?_
                                                      refine lv_aload_n hx hb dX7_countRows_102 rfl (lv_at hl 3 rfl) ?_
                                                      refine va_get (D := G.1) (ci := 7) (v := .int 0) (C := RX7) (T := TX7) (N := 10) hx hb hts inG_X7 hown hK hP 0 rfl rfl 4 (by decide) (hts _ fl_X7_89) (fun _ h9 => h9) rfl dX7_countRows_103 ?_
                                                      refine lv_iadd hx hb dX7_countRows_106 ?_
                                                      refine g5_ti (v := k_i) (by simp) ?_
                                                      refine va_lald hx hb hK hP 3 1 rfl rfl (i := k_i) (vp_in_iff.mpr ⟨by omega, by omega⟩) dX7_countRows_107 ?_
                                                      refine lv_ladd hx hb dX7_countRows_108 ?_
                                                      refine lv_lstore_n (lv' := [(2, .long (k_s + (z73 k_i.toNatClampNeg))), (4, .int k_i), (1, .int 1), (0, .ref a_49)]) hx hb dX7_countRows_109 rfl hl (by decide) rfl (fun ls hl => ?_)
                                                      refine lv_iinc (v := (k_i + 1)) (lv' := [(4, .int (k_i + 1)), (2, .long (k_s + (z73 k_i.toNatClampNeg))), (1, .int 1), (0, .ref a_49)]) hx hb dX7_countRows_110 hl (k := 1) rfl rfl (by decide) rfl (fun ls hl => ?_)
                                                      have t_79 : (k_i + 1).toInt = k_i.toInt + 1 := g5_iadd (a := k_i.toInt) (b := 1) rfl (by decide) (by omega) (by omega)
                                                      refine lv_goto (tgt := 86) hx hb dX7_countRows_113 (by decide) ?_
                                                      exact ih_86_77 ((k_i + 1), (k_s + (z73 k_i.toNatClampNeg))) ls H locs (show Int.toNat (64 - (k_i + 1).toInt) < Int.toNat (64 - k_i.toInt) by omega) ⟨lv_sub hl [1, 0, 2, 3] rfl, hP, hD, hS, ⟨by omega, by omega⟩, g5_sum i_76 (by omega) (by omega)⟩
                                                  ·
                                                    exact absurd c_74 (by decide)
  ·
    have i_4 : k_c.toInt < 64 := by have z := g5_geN (a := k_c.toInt) (b := 64) (by rfl) (by decide) c_4; omega
    refine lv_aload_n hx hb dX7_countRows_23 rfl (lv_at hl 2 rfl) ?_
    refine va_get (D := G.1) (ci := 7) (v := .ref a_52) (C := RX7) (T := TX7) (N := 10) hx hb hts inG_X7 hown hK hP 0 rfl rfl 5 (by decide) (hts _ fl_X7_19) (fun _ h9 => h9) rfl dX7_countRows_24 ?_
    refine lv_iload_n hx hb dX7_countRows_27 rfl (lv_at hl 0 rfl) ?_
    refine lv_iload_n hx hb dX7_countRows_28 rfl (lv_at hl 1 rfl) ?_
    refine lv_imul hx hb dX7_countRows_29 ?_
    refine g5_ti (v := k_c) (by simp) ?_
    refine lv_aload_n hx hb dX7_countRows_30 rfl (lv_at hl 2 rfl) ?_
    refine va_get (D := G.1) (ci := 7) (v := .ref a_51) (C := RX7) (T := TX7) (N := 10) hx hb hts inG_X7 hown hK hP 0 rfl rfl 3 (by decide) (hts _ fl_X7_15) (fun _ h9 => h9) rfl dX7_countRows_31 ?_
    refine lv_iload_n hx hb dX7_countRows_34 rfl (lv_at hl 0 rfl) ?_
    refine va_iald hx hb hK hP 2 0 rfl rfl (i := k_c) (vp_in_iff.mpr ⟨by omega, by omega⟩) dX7_countRows_35 ?_
    refine g5_ti (v := 0) rfl ?_
    refine lv_iadd hx hb dX7_countRows_36 ?_
    refine g5_ti (v := k_c) (by simp) ?_
    refine lv_aload_n hx hb dX7_countRows_37 rfl (lv_at hl 2 rfl) ?_
    refine va_get (D := G.1) (ci := 7) (v := .ref a_50) (C := RX7) (T := TX7) (N := 10) hx hb hts inG_X7 hown hK hP 0 rfl rfl 2 (by decide) (hts _ fl_X7_9) (fun _ h9 => h9) rfl dX7_countRows_38 ?_
    refine lv_iconst (v := 0) hx hb dX7_countRows_41 (by decide) ?_
    refine va_lald hx hb hK hP 1 1 rfl rfl (i := 0) (by unfold vp_in; decide) dX7_countRows_42 ?_
    refine g5_tl (v := (f_b 0)) rfl ?_
    refine lv_iload_n hx hb dX7_countRows_43 rfl (lv_at hl 0 rfl) ?_
    have hPc := hP.sub (ws' := []) [] rfl
    have hDc := hD.sub (ws' := []) [] (by decide) rfl
    have hFc := va_free (wc := []) hD hS hA [] rfl
    refine va_calli (va_runSN (As := [.long (f_b 0), .int k_c]) (rest := [.int k_c, .ref a_52]) ⟨hx, hb, hml, hown, hts⟩ (k_isOn l G H.size k_c (f_b 0) ⟨by omega, by omega⟩) ⟨va_cnB 2 hts gW_X11_isOn rfl rfl rfl (hN.1 _ g5_nw_X7_98) (hts _ ini_X11) hs_X11_isOn ⟨Nat.le_of_ble_eq_true rfl, Nat.le_of_ble_eq_true rfl⟩, hts _ st_X11_isOn, trivial⟩ (g5_preS hPc hK hDc hN hT hS hFc) rfl rfl hl.1 rfl (lv_room (Nat.le_of_ble_eq_true rfl)) dX7_countRows_44 ⟨Nat.le_of_ble_eq_true rfl, Nat.le_of_ble_eq_true rfl⟩) hS (fun q _ h => hFc q h) hFc (fun r u t H1 locs ht hvm hw hB hz1 hk1 hS => ?_)
    obtain ⟨hP1, hD1⟩ := hB
    rw [ht] at hP1
    rcases hw with ⟨i_80, rfl, rfl⟩ | ⟨i_81, rfl, rfl⟩
    ·
      have i_80 : onB (f_b 0) k_c.toInt = false := i_80
      have hP := g5_same hP hk1
      generalize H1 = H at hP hS ⊢
      refine lv_if_eq (tgt := 54) hx hb dX7_countRows_47 (by decide) (fun c_82 => ?_) (fun c_82 => ?_)
      ·
        refine lv_lconst (v := 1) hx hb dX7_countRows_54 (by decide) ?_
        refine va_last hx hb hK hP hD hS 4 1 rfl rfl (i := k_c) (x := 1) (vp_in_iff.mpr ⟨by omega, by omega⟩) dX7_countRows_55 (fun H locs hP hD hS => ?_)
        have hP : va_P G.1 vwCl [(a_49, .inr (7, [.ref a_1, .ref a_42, .ref a_50, .ref a_51, .int 0, .ref a_52, .ref a_53, .ref a_54, .ref a_55, .ref a_56])), (a_50, .inl (G.2 1, 24, .inr (.inl f_b))), (a_51, .inl (G.2 0, 1536, .inl (fun _ => 0))), (a_53, .inl (G.2 1, 2048, .inr (.inl f_n))), (a_52, .inl (G.2 1, 2048, .inr (.inl (vp_updL k_f k_c.toNatClampNeg 1))))] H := hP
        have hD : va_D A [(a_49, .inr (7, [.ref a_1, .ref a_42, .ref a_50, .ref a_51, .int 0, .ref a_52, .ref a_53, .ref a_54, .ref a_55, .ref a_56])), (a_50, .inl (G.2 1, 24, .inr (.inl f_b))), (a_51, .inl (G.2 0, 1536, .inl (fun _ => 0))), (a_53, .inl (G.2 1, 2048, .inr (.inl f_n))), (a_52, .inl (G.2 1, 2048, .inr (.inl (vp_updL k_f k_c.toNatClampNeg 1))))] := hD
        refine lv_iinc (v := (k_c + 1)) (lv' := [(2, .int (k_c + 1)), (1, .int 1), (0, .ref a_49)]) hx hb dX7_countRows_56 hl (k := 0) rfl rfl (by decide) rfl (fun ls hl => ?_)
        have t_83 : (k_c + 1).toInt = k_c.toInt + 1 := g5_iadd (a := k_c.toInt) (b := 1) rfl (by decide) (by omega) (by omega)
        refine lv_goto (tgt := 17) hx hb dX7_countRows_59 (by decide) ?_
        exact ih_17_3 ((k_c + 1), (vp_updL k_f k_c.toNatClampNeg 1)) ls H locs (show Int.toNat (64 - (k_c + 1).toInt) < Int.toNat (64 - k_c.toInt) by omega) ⟨lv_sub hl [0, 1, 2] rfl, hP, hD, hS, ⟨by omega, by omega⟩, g5_fillJ i_2 (by omega) (by omega) (g5_ini0 (by omega) i_80)⟩
      ·
        exact absurd c_82 (by decide)
    ·
      have i_81 : onB (f_b 0) k_c.toInt = true := i_81
      have hP := g5_same hP hk1
      generalize H1 = H at hP hS ⊢
      refine lv_if_eq (tgt := 54) hx hb dX7_countRows_47 (by decide) (fun c_84 => ?_) (fun c_84 => ?_)
      ·
        exact absurd c_84 (by decide)
      ·
        refine lv_lconst (v := 0) hx hb dX7_countRows_50 (by decide) ?_
        refine lv_goto (tgt := 55) hx hb dX7_countRows_51 (by decide) ?_
        refine va_last hx hb hK hP hD hS 4 1 rfl rfl (i := k_c) (x := 0) (vp_in_iff.mpr ⟨by omega, by omega⟩) dX7_countRows_55 (fun H locs hP hD hS => ?_)
        have hP : va_P G.1 vwCl [(a_49, .inr (7, [.ref a_1, .ref a_42, .ref a_50, .ref a_51, .int 0, .ref a_52, .ref a_53, .ref a_54, .ref a_55, .ref a_56])), (a_50, .inl (G.2 1, 24, .inr (.inl f_b))), (a_51, .inl (G.2 0, 1536, .inl (fun _ => 0))), (a_53, .inl (G.2 1, 2048, .inr (.inl f_n))), (a_52, .inl (G.2 1, 2048, .inr (.inl (vp_updL k_f k_c.toNatClampNeg 0))))] H := hP
        have hD : va_D A [(a_49, .inr (7, [.ref a_1, .ref a_42, .ref a_50, .ref a_51, .int 0, .ref a_52, .ref a_53, .ref a_54, .ref a_55, .ref a_56])), (a_50, .inl (G.2 1, 24, .inr (.inl f_b))), (a_51, .inl (G.2 0, 1536, .inl (fun _ => 0))), (a_53, .inl (G.2 1, 2048, .inr (.inl f_n))), (a_52, .inl (G.2 1, 2048, .inr (.inl (vp_updL k_f k_c.toNatClampNeg 0))))] := hD
        refine lv_iinc (v := (k_c + 1)) (lv' := [(2, .int (k_c + 1)), (1, .int 1), (0, .ref a_49)]) hx hb dX7_countRows_56 hl (k := 0) rfl rfl (by decide) rfl (fun ls hl => ?_)
        have t_85 : (k_c + 1).toInt = k_c.toInt + 1 := g5_iadd (a := k_c.toInt) (b := 1) rfl (by decide) (by omega) (by omega)
        refine lv_goto (tgt := 17) hx hb dX7_countRows_59 (by decide) ?_
        exact ih_17_3 ((k_c + 1), (vp_updL k_f k_c.toNatClampNeg 0)) ls H locs (show Int.toNat (64 - (k_c + 1).toInt) < Int.toNat (64 - k_c.toInt) by omega) ⟨lv_sub hl [0, 1, 2] rfl, hP, hD, hS, ⟨by omega, by omega⟩, g5_fillJ i_2 (by omega) (by omega) (g5_ini1 (by omega) i_81)⟩
theorem dX7_hopesBehind_0 : decode cX7_hopesBehind 0 = .ok (.iload_n 1, 1) := by decide +kernel
theorem dX7_hopesBehind_1 : decode cX7_hopesBehind 1 = .ok (.bipush 23, 2) := by decide +kernel
theorem dX7_hopesBehind_3 : decode cX7_hopesBehind 3 = .ok (.if_icmp .ne 10, 3) := by decide +kernel
theorem dX7_hopesBehind_6 : decode cX7_hopesBehind 6 = .ok (.iconst 1, 1) := by decide +kernel
theorem dX7_hopesBehind_7 : decode cX7_hopesBehind 7 = .ok (.aload_n 0, 1) := by decide +kernel
theorem dX7_hopesBehind_8 : decode cX7_hopesBehind 8 = .ok (.getfield 89, 3) := by decide +kernel
theorem dX7_hopesBehind_11 : decode cX7_hopesBehind 11 = .ok (.ishl, 1) := by decide +kernel
theorem dX7_hopesBehind_12 : decode cX7_hopesBehind 12 = .ok (.ireturn, 1) := by decide +kernel
theorem dX7_hopesBehind_13 : decode cX7_hopesBehind 13 = .ok (.iconst 0, 1) := by decide +kernel
theorem dX7_hopesBehind_14 : decode cX7_hopesBehind 14 = .ok (.istore_n 3, 1) := by decide +kernel
theorem dX7_hopesBehind_15 : decode cX7_hopesBehind 15 = .ok (.iconst 0, 1) := by decide +kernel
theorem dX7_hopesBehind_16 : decode cX7_hopesBehind 16 = .ok (.istore 4, 2) := by decide +kernel
theorem dX7_hopesBehind_18 : decode cX7_hopesBehind 18 = .ok (.iload 4, 2) := by decide +kernel
theorem dX7_hopesBehind_20 : decode cX7_hopesBehind 20 = .ok (.iconst 4, 1) := by decide +kernel
theorem dX7_hopesBehind_21 : decode cX7_hopesBehind 21 = .ok (.if_icmp .gt 44, 3) := by decide +kernel
theorem dX7_hopesBehind_24 : decode cX7_hopesBehind 24 = .ok (.iload_n 2, 1) := by decide +kernel
theorem dX7_hopesBehind_25 : decode cX7_hopesBehind 25 = .ok (.iload 4, 2) := by decide +kernel
theorem dX7_hopesBehind_27 : decode cX7_hopesBehind 27 = .ok (.invokestatic 105, 3) := by decide +kernel
theorem dX7_hopesBehind_30 : decode cX7_hopesBehind 30 = .ok (.istore 5, 2) := by decide +kernel
theorem dX7_hopesBehind_32 : decode cX7_hopesBehind 32 = .ok (.iload_n 3, 1) := by decide +kernel
theorem dX7_hopesBehind_33 : decode cX7_hopesBehind 33 = .ok (.iload 5, 2) := by decide +kernel
theorem dX7_hopesBehind_35 : decode cX7_hopesBehind 35 = .ok (.iconst (-1), 1) := by decide +kernel
theorem dX7_hopesBehind_36 : decode cX7_hopesBehind 36 = .ok (.if_icmp .ne 7, 3) := by decide +kernel
theorem dX7_hopesBehind_39 : decode cX7_hopesBehind 39 = .ok (.iconst 0, 1) := by decide +kernel
theorem dX7_hopesBehind_40 : decode cX7_hopesBehind 40 = .ok (.goto 17, 3) := by decide +kernel
theorem dX7_hopesBehind_43 : decode cX7_hopesBehind 43 = .ok (.aload_n 0, 1) := by decide +kernel
theorem dX7_hopesBehind_44 : decode cX7_hopesBehind 44 = .ok (.getfield 25, 3) := by decide +kernel
theorem dX7_hopesBehind_47 : decode cX7_hopesBehind 47 = .ok (.iload_n 1, 1) := by decide +kernel
theorem dX7_hopesBehind_48 : decode cX7_hopesBehind 48 = .ok (.iconst 1, 1) := by decide +kernel
theorem dX7_hopesBehind_49 : decode cX7_hopesBehind 49 = .ok (.iadd, 1) := by decide +kernel
theorem dX7_hopesBehind_50 : decode cX7_hopesBehind 50 = .ok (.bipush 64, 2) := by decide +kernel
theorem dX7_hopesBehind_52 : decode cX7_hopesBehind 52 = .ok (.imul, 1) := by decide +kernel
theorem dX7_hopesBehind_53 : decode cX7_hopesBehind 53 = .ok (.iload 5, 2) := by decide +kernel
theorem dX7_hopesBehind_55 : decode cX7_hopesBehind 55 = .ok (.iadd, 1) := by decide +kernel
theorem dX7_hopesBehind_56 : decode cX7_hopesBehind 56 = .ok (.iaload, 1) := by decide +kernel
theorem dX7_hopesBehind_57 : decode cX7_hopesBehind 57 = .ok (.ior, 1) := by decide +kernel
theorem dX7_hopesBehind_58 : decode cX7_hopesBehind 58 = .ok (.istore_n 3, 1) := by decide +kernel
theorem dX7_hopesBehind_59 : decode cX7_hopesBehind 59 = .ok (.iinc 4 1, 3) := by decide +kernel
theorem dX7_hopesBehind_62 : decode cX7_hopesBehind 62 = .ok (.goto (-44), 3) := by decide +kernel
theorem dX7_hopesBehind_65 : decode cX7_hopesBehind 65 = .ok (.iload_n 3, 1) := by decide +kernel
theorem dX7_hopesBehind_66 : decode cX7_hopesBehind 66 = .ok (.ireturn, 1) := by decide +kernel
set_option maxHeartbeats 4000000 in
set_option maxRecDepth 100000 in
theorem k_hopesBehind (l : Launch) (G : g5_G) (a_49 a_54 a_1 a_42 a_50 a_51 a_52 a_53 a_55 a_56 : Nat) (sz : Nat) (p_h : Int32) (p_c : Int32) (f_h : Nat → Int32) (h_p_h : 0 ≤ p_h.toInt ∧ p_h.toInt ≤ 23) (h_p_c : 0 ≤ p_c.toInt ∧ p_c.toInt ≤ 63) (e_h : ∀ j : Nat, (p_h.toInt + 1) * 64 ≤ (j : Int) → (j : Int) < 1536 → f_h j = 1) : Met l yX7_hopesBehind (wsG yX7_hopesBehind cX7_hopesBehind 6 (some .int)) ({ frames := 1, cells := 0, slots := 0, locals := 21 }) (va_Pc [.ref a_49, .int p_h, .int p_c] (g5_P G [(a_49, .inr (7, [.ref a_1, .ref a_42, .ref a_50, .ref a_51, .int 0, .ref a_52, .ref a_53, .ref a_54, .ref a_55, .ref a_56])), (a_54, .inl (G.2 0, 1536, .inl f_h))] sz)) (va_Qi (fun (r : Int32) (u : va_W) => ((r = 1) ∧ (u = [(a_49, .inr (7, [.ref a_1, .ref a_42, .ref a_50, .ref a_51, .int 0, .ref a_52, .ref a_53, .ref a_54, .ref a_55, .ref a_56])), (a_54, .inl (G.2 0, 1536, .inl f_h))]))) (g5_B G (va_A [(a_49, .inr (7, [.ref a_1, .ref a_42, .ref a_50, .ref a_51, .int 0, .ref a_52, .ref a_53, .ref a_54, .ref a_55, .ref a_56])), (a_54, .inl (G.2 0, 1536, .inl f_h))] sz)) (va_A [(a_49, .inr (7, [.ref a_1, .ref a_42, .ref a_50, .ref a_51, .int 0, .ref a_52, .ref a_53, .ref a_54, .ref a_55, .ref a_56])), (a_54, .inl (G.2 0, 1536, .inl f_h))] sz)) 0 0 (va_A [(a_49, .inr (7, [.ref a_1, .ref a_42, .ref a_50, .ref a_51, .int 0, .ref a_52, .ref a_53, .ref a_54, .ref a_55, .ref a_56])), (a_54, .inl (G.2 0, 1536, .inl f_h))] sz) := by
  refine Met.ofW (cc := cX7_hopesBehind) (maxL := 6) (ret := (some .int)) (by decide) rfl ?_
  intro p e s m args below meth c s₁ B hml hv
  obtain ⟨rfl, hsz, hP, hK, hD0, hN, hT⟩ := hv
  have hx := B.exec
  have hb := B.bytes
  have hr := B.returns
  have hts : ∀ w ∈ tblG, w.before _ s = true := fun w h => atoms_spec (ws := (wsG yX7_hopesBehind cX7_hopesBehind 6 (some .int))) B.pre w (List.mem_cons_of_mem _ h)
  have hown : s.vm.findClass RX7 = some m.cls := findClass_of_methodNamed B.named
  have hlocks := B.notSynchronized
  subst hsz
  have hD := hD0.self (sz := s.heap.size)
  generalize hAe : va_A [(a_49, .inr (7, [.ref a_1, .ref a_42, .ref a_50, .ref a_51, .int 0, .ref a_52, .ref a_53, .ref a_54, .ref a_55, .ref a_56])), (a_54, .inl (G.2 0, 1536, .inl f_h))] s.heap.size = A at hD hT ⊢
  have hA : ∀ q : Nat, s.heap.size ≤ q → A q := fun q h => by rw [← hAe]; exact Or.inr h
  have hS : va_S A s.heap s.heap [] := va_S.rf
  have hP : va_P G.1 vwCl [(a_49, .inr (7, [.ref a_1, .ref a_42, .ref a_50, .ref a_51, .int 0, .ref a_52, .ref a_53, .ref a_54, .ref a_55, .ref a_56])), (a_54, .inl (G.2 0, 1536, .inl f_h))] s.heap := hP
  have hl := lv_entry ([.ref a_49, .int p_h, .int p_c]) (n := 6) (Nat.le_of_ble_eq_true rfl)
  rw [lg_entry_eq]
  generalize (lg_sl ([.ref a_49, .int p_h, .int p_c]) ++ List.replicate (6 - (lg_sl ([.ref a_49, .int p_h, .int p_c])).length) Slot.unset).toArray = ls at hl ⊢
  have hl : lv_has ls 6 [(0, .ref a_49), (1, .int p_h), (2, .int p_c)] := hl
  refine lv_iload_n hx hb dX7_hopesBehind_0 rfl (lv_at hl 1 rfl) ?_
  refine lv_bipush (v := 23) hx hb dX7_hopesBehind_1 (by decide) ?_
  refine lv_icmp_ne (tgt := 13) hx hb dX7_hopesBehind_3 (by decide) (fun c_1 => ?_) (fun c_1 => ?_)
  ·
    have i_1 : p_h.toInt ≠ 23 := by have z := g5_ne (a := p_h.toInt) (b := 23) (by rfl) (by decide) c_1; omega
    refine lv_iconst (v := 0) hx hb dX7_hopesBehind_13 (by decide) ?_
    refine lv_istore_n (lv' := [(3, .int 0), (0, .ref a_49), (1, .int p_h), (2, .int p_c)]) hx hb dX7_hopesBehind_14 rfl hl (by decide) rfl (fun ls hl => ?_)
    refine lv_iconst (v := 0) hx hb dX7_hopesBehind_15 (by decide) ?_
    refine lv_istore (lv' := [(4, .int 0), (3, .int 0), (0, .ref a_49), (1, .int p_h), (2, .int p_c)]) hx hb dX7_hopesBehind_16 hl (by decide) rfl (fun ls hl => ?_)
    refine g5_loop (α := (Int32) × (Int32)) (fun (q : (Int32) × (Int32)) (ls : Array Slot) (H : Heap) (locs : List Loc) => match q with | (k_w, k_s) => lv_has ls 6 [(3, .int k_s), (4, .int k_w), (0, .ref a_49), (1, .int p_h), (2, .int p_c)] ∧ va_P G.1 vwCl [(a_49, .inr (7, [.ref a_1, .ref a_42, .ref a_50, .ref a_51, .int 0, .ref a_52, .ref a_53, .ref a_54, .ref a_55, .ref a_56])), (a_54, .inl (G.2 0, 1536, .inl f_h))] H ∧ va_D A [(a_49, .inr (7, [.ref a_1, .ref a_42, .ref a_50, .ref a_51, .int 0, .ref a_52, .ref a_53, .ref a_54, .ref a_55, .ref a_56])), (a_54, .inl (G.2 0, 1536, .inl f_h))] ∧ va_S A s.heap H locs ∧ (0 ≤ k_w.toInt ∧ k_w.toInt ≤ 5) ∧ (0 ≤ k_s.toInt ∧ k_s.toInt ≤ 1) ∧ (k_w.toInt = 5 → k_s.toInt = 1)) (fun (q : (Int32) × (Int32)) => match q with | (k_w, k_s) => Int.toNat (5 - k_w.toInt)) (0, 0) ⟨lv_sub hl [1, 0, 2, 3, 4] rfl, hP, hD, hS, ⟨by decide, by decide⟩, ⟨by decide, by decide⟩, fun h => absurd h (by decide)⟩ ?_
    rintro ⟨k_w, k_s⟩ ls H locs ⟨hl, hP, hD, hS, i_2, i_3, i_4⟩ ih_18_5
    have hl : lv_has ls 6 [(3, .int k_s), (4, .int k_w), (0, .ref a_49), (1, .int p_h), (2, .int p_c)] := hl
    have i_2 : 0 ≤ k_w.toInt ∧ k_w.toInt ≤ 5 := i_2
    have i_3 : 0 ≤ k_s.toInt ∧ k_s.toInt ≤ 1 := i_3
    have i_4 : k_w.toInt = 5 → k_s.toInt = 1 := i_4
    have hP : va_P G.1 vwCl [(a_49, .inr (7, [.ref a_1, .ref a_42, .ref a_50, .ref a_51, .int 0, .ref a_52, .ref a_53, .ref a_54, .ref a_55, .ref a_56])), (a_54, .inl (G.2 0, 1536, .inl f_h))] H := hP
    have hD : va_D A [(a_49, .inr (7, [.ref a_1, .ref a_42, .ref a_50, .ref a_51, .int 0, .ref a_52, .ref a_53, .ref a_54, .ref a_55, .ref a_56])), (a_54, .inl (G.2 0, 1536, .inl f_h))] := hD
    refine lv_iload hx hb dX7_hopesBehind_18 (lv_at hl 1 rfl) ?_
    refine lv_iconst (v := 4) hx hb dX7_hopesBehind_20 (by decide) ?_
    refine lv_icmp_gt (tgt := 65) hx hb dX7_hopesBehind_21 (by decide) (fun c_6 => ?_) (fun c_6 => ?_)
    ·
      have i_6 : k_w.toInt > 4 := by have z := g5_gt (a := k_w.toInt) (b := 4) (by rfl) (by decide) c_6; omega
      refine lv_iload_n hx hb dX7_hopesBehind_65 rfl (lv_at hl 0 rfl) ?_
      refine g5_ti (v := 1) (g5_toc (n := 1) (by decide) (i_4 (by omega))) ?_
      exact W.iret (v := 1) hx hb hr (fun t ht hW => ⟨⟨1, [(a_49, .inr (7, [.ref a_1, .ref a_42, .ref a_50, .ref a_51, .int 0, .ref a_52, .ref a_53, .ref a_54, .ref a_55, .ref a_56])), (a_54, .inl (G.2 0, 1536, .inl f_h))], rfl, ⟨rfl, rfl⟩, by rw [ht]; exact hP.sub [0, 1] rfl, hD.sub [0, 1] (by decide) rfl⟩, hS.F ht⟩) hS.2.2 dX7_hopesBehind_66
    ·
      have i_6 : k_w.toInt ≤ 4 := by have z := g5_gtN (a := k_w.toInt) (b := 4) (by rfl) (by decide) c_6; omega
      refine lv_iload_n hx hb dX7_hopesBehind_24 rfl (lv_at hl 4 rfl) ?_
      refine lv_iload hx hb dX7_hopesBehind_25 (lv_at hl 1 rfl) ?_
      have hPc := hP.sub (ws' := []) [] rfl
      have hDc := hD.sub (ws' := []) [] (by decide) rfl
      have hFc := va_free (wc := []) hD hS hA [] rfl
      refine va_calli (va_runSN (As := [.int p_c, .int k_w]) (rest := []) ⟨hx, hb, hml, hown, hts⟩ (k_beside l G H.size p_c k_w ⟨by omega, by omega⟩) ⟨va_cnB 2 hts gW_X11_beside rfl rfl rfl (hN.1 _ g5_nw_X7_105) (hts _ ini_X11) hs_X11_beside ⟨Nat.le_of_ble_eq_true rfl, Nat.le_of_ble_eq_true rfl⟩, hts _ st_X11_beside, trivial⟩ (g5_preS hPc hK hDc hN hT hS hFc) rfl rfl hl.1 rfl (lv_room (Nat.le_of_ble_eq_true rfl)) dX7_hopesBehind_27 ⟨Nat.le_of_ble_eq_true rfl, Nat.le_of_ble_eq_true rfl⟩) hS (fun q _ h => hFc q h) hFc (fun r u t H1 locs ht hvm hw hB hz1 hk1 hS => ?_)
      obtain ⟨hP1, hD1⟩ := hB
      rw [ht] at hP1
      obtain ⟨z9, i_7, i_8, y10, rfl⟩ := hw
      have i_7 : z9.toInt = bs p_c.toInt k_w.toInt := i_7
      have i_8 : -1 ≤ z9.toInt ∧ z9.toInt ≤ 63 := i_8
      have hP := g5_same hP hk1
      generalize H1 = H at hP hS ⊢
      refine g5_ti (v := z9) y10 ?_
      refine lv_istore (lv' := [(5, .int z9), (3, .int k_s), (4, .int k_w), (0, .ref a_49), (1, .int p_h), (2, .int p_c)]) hx hb dX7_hopesBehind_30 hl (by decide) rfl (fun ls hl => ?_)
      refine lv_iload_n hx hb dX7_hopesBehind_32 rfl (lv_at hl 1 rfl) ?_
      refine lv_iload hx hb dX7_hopesBehind_33 (lv_at hl 0 rfl) ?_
      refine lv_iconst (v := (-1)) hx hb dX7_hopesBehind_35 (by decide) ?_
      refine lv_icmp_ne (tgt := 43) hx hb dX7_hopesBehind_36 (by decide) (fun c_11 => ?_) (fun c_11 => ?_)
      ·
        have i_11 : z9.toInt ≠ (-1) := by have z := g5_ne (a := z9.toInt) (b := (-1)) (by rfl) (by decide) c_11; omega
        refine lv_aload_n hx hb dX7_hopesBehind_43 rfl (lv_at hl 3 rfl) ?_
        refine va_get (D := G.1) (ci := 7) (v := .ref a_54) (C := RX7) (T := TX7) (N := 10) hx hb hts inG_X7 hown hK hP 0 rfl rfl 7 (by decide) (hts _ fl_X7_25) (fun _ h9 => h9) rfl dX7_hopesBehind_44 ?_
        refine lv_iload_n hx hb dX7_hopesBehind_47 rfl (lv_at hl 4 rfl) ?_
        refine lv_iconst (v := 1) hx hb dX7_hopesBehind_48 (by decide) ?_
        refine lv_iadd hx hb dX7_hopesBehind_49 ?_
        have t_12 : (p_h + 1).toInt = p_h.toInt + 1 := g5_iadd (a := p_h.toInt) (b := 1) (by rfl) (by decide) (by omega) (by omega)
        refine lv_bipush (v := 64) hx hb dX7_hopesBehind_50 (by decide) ?_
        refine lv_imul hx hb dX7_hopesBehind_52 ?_
        have t_13 : ((p_h + 1) * 64).toInt = (p_h + 1).toInt * 64 := g5_imul (a := (p_h + 1).toInt) (b := 64) (by rfl) (by decide) (by omega) (by omega)
        refine lv_iload hx hb dX7_hopesBehind_53 (lv_at hl 0 rfl) ?_
        refine lv_iadd hx hb dX7_hopesBehind_55 ?_
        have t_14 : (((p_h + 1) * 64) + z9).toInt = ((p_h + 1) * 64).toInt + z9.toInt := g5_iadd (a := ((p_h + 1) * 64).toInt) (b := z9.toInt) (by rfl) (by rfl) (by omega) (by omega)
        refine va_iald hx hb hK hP 1 0 rfl rfl (i := (((p_h + 1) * 64) + z9)) (vp_in_iff.mpr ⟨by omega, by omega⟩) dX7_hopesBehind_56 ?_
        refine g5_ti (v := 1) (e_h _ (by have z := g5_clamp (((p_h + 1) * 64) + z9); omega) (by have z := g5_clamp (((p_h + 1) * 64) + z9); omega)) ?_
        refine lv_ior hx hb dX7_hopesBehind_57 ?_
        refine g5_ti (v := 1) (g5_or1 (by omega) (by omega)) ?_
        refine lv_istore_n (lv' := [(3, .int 1), (5, .int z9), (4, .int k_w), (0, .ref a_49), (1, .int p_h), (2, .int p_c)]) hx hb dX7_hopesBehind_58 rfl hl (by decide) rfl (fun ls hl => ?_)
        refine lv_iinc (v := (k_w + 1)) (lv' := [(4, .int (k_w + 1)), (3, .int 1), (5, .int z9), (0, .ref a_49), (1, .int p_h), (2, .int p_c)]) hx hb dX7_hopesBehind_59 hl (k := 2) rfl rfl (by decide) rfl (fun ls hl => ?_)
        have t_15 : (k_w + 1).toInt = k_w.toInt + 1 := g5_iadd (a := k_w.toInt) (b := 1) rfl (by decide) (by omega) (by omega)
        refine lv_goto (tgt := 18) hx hb dX7_hopesBehind_62 (by decide) ?_
        exact ih_18_5 ((k_w + 1), 1) ls H locs (show Int.toNat (5 - (k_w + 1).toInt) < Int.toNat (5 - k_w.toInt) by omega) ⟨lv_sub hl [1, 0, 3, 4, 5] rfl, hP, hD, hS, ⟨by omega, by omega⟩, ⟨by decide, by decide⟩, fun _ => by decide⟩
      ·
        have i_11 : z9.toInt = (-1) := by have z := g5_neN (a := z9.toInt) (b := (-1)) (by rfl) (by decide) c_11; omega
        refine lv_iconst (v := 0) hx hb dX7_hopesBehind_39 (by decide) ?_
        refine lv_goto (tgt := 57) hx hb dX7_hopesBehind_40 (by decide) ?_
        refine lv_ior hx hb dX7_hopesBehind_57 ?_
        refine g5_ti (v := k_s) (by simp) ?_
        refine lv_istore_n (lv' := [(3, .int k_s), (5, .int z9), (4, .int k_w), (0, .ref a_49), (1, .int p_h), (2, .int p_c)]) hx hb dX7_hopesBehind_58 rfl hl (by decide) rfl (fun ls hl => ?_)
        refine lv_iinc (v := (k_w + 1)) (lv' := [(4, .int (k_w + 1)), (3, .int k_s), (5, .int z9), (0, .ref a_49), (1, .int p_h), (2, .int p_c)]) hx hb dX7_hopesBehind_59 hl (k := 2) rfl rfl (by decide) rfl (fun ls hl => ?_)
        have t_16 : (k_w + 1).toInt = k_w.toInt + 1 := g5_iadd (a := k_w.toInt) (b := 1) rfl (by decide) (by omega) (by omega)
        refine lv_goto (tgt := 18) hx hb dX7_hopesBehind_62 (by decide) ?_
        exact ih_18_5 ((k_w + 1), k_s) ls H locs (show Int.toNat (5 - (k_w + 1).toInt) < Int.toNat (5 - k_w.toInt) by omega) ⟨lv_sub hl [1, 0, 3, 4, 5] rfl, hP, hD, hS, ⟨by omega, by omega⟩, ⟨by omega, by omega⟩, fun h => by have z := i_7; unfold bs at z; omega⟩
  ·
    have i_1 : p_h.toInt = 23 := by have z := g5_neN (a := p_h.toInt) (b := 23) (by rfl) (by decide) c_1; omega
    refine lv_iconst (v := 1) hx hb dX7_hopesBehind_6 (by decide) ?_
    refine lv_aload_n hx hb dX7_hopesBehind_7 rfl (lv_at hl 0 rfl) ?_
    refine va_get (D := G.1) (ci := 7) (v := .int 0) (C := RX7) (T := TX7) (N := 10) hx hb hts inG_X7 hown hK hP 0 rfl rfl 4 (by decide) (hts _ fl_X7_89) (fun _ h9 => h9) rfl dX7_hopesBehind_8 ?_
    refine lv_ishl hx hb dX7_hopesBehind_11 ?_
    refine g5_ti (v := 1) (by decide) ?_
    exact W.iret (v := 1) hx hb hr (fun t ht hW => ⟨⟨1, [(a_49, .inr (7, [.ref a_1, .ref a_42, .ref a_50, .ref a_51, .int 0, .ref a_52, .ref a_53, .ref a_54, .ref a_55, .ref a_56])), (a_54, .inl (G.2 0, 1536, .inl f_h))], rfl, ⟨rfl, rfl⟩, by rw [ht]; exact hP.sub [0, 1] rfl, hD.sub [0, 1] (by decide) rfl⟩, hS.F ht⟩) hS.2.2 dX7_hopesBehind_12
theorem dX7_anyFits_0 : decode cX7_anyFits 0 = .ok (.bipush 23, 2) := by decide +kernel
theorem dX7_anyFits_2 : decode cX7_anyFits 2 = .ok (.istore_n 1, 1) := by decide +kernel
theorem dX7_anyFits_3 : decode cX7_anyFits 3 = .ok (.iload_n 1, 1) := by decide +kernel
theorem dX7_anyFits_4 : decode cX7_anyFits 4 = .ok (.ifCond .lt 72, 3) := by decide +kernel
theorem dX7_anyFits_7 : decode cX7_anyFits 7 = .ok (.iconst 0, 1) := by decide +kernel
theorem dX7_anyFits_8 : decode cX7_anyFits 8 = .ok (.istore_n 2, 1) := by decide +kernel
theorem dX7_anyFits_9 : decode cX7_anyFits 9 = .ok (.iload_n 2, 1) := by decide +kernel
theorem dX7_anyFits_10 : decode cX7_anyFits 10 = .ok (.bipush 64, 2) := by decide +kernel
theorem dX7_anyFits_12 : decode cX7_anyFits 12 = .ok (.if_icmp .ge 58, 3) := by decide +kernel
theorem dX7_anyFits_15 : decode cX7_anyFits 15 = .ok (.iload_n 1, 1) := by decide +kernel
theorem dX7_anyFits_16 : decode cX7_anyFits 16 = .ok (.bipush 64, 2) := by decide +kernel
theorem dX7_anyFits_18 : decode cX7_anyFits 18 = .ok (.imul, 1) := by decide +kernel
theorem dX7_anyFits_19 : decode cX7_anyFits 19 = .ok (.iload_n 2, 1) := by decide +kernel
theorem dX7_anyFits_20 : decode cX7_anyFits 20 = .ok (.iadd, 1) := by decide +kernel
theorem dX7_anyFits_21 : decode cX7_anyFits 21 = .ok (.istore_n 3, 1) := by decide +kernel
theorem dX7_anyFits_22 : decode cX7_anyFits 22 = .ok (.aload_n 0, 1) := by decide +kernel
theorem dX7_anyFits_23 : decode cX7_anyFits 23 = .ok (.getfield 9, 3) := by decide +kernel
theorem dX7_anyFits_26 : decode cX7_anyFits 26 = .ok (.iload_n 1, 1) := by decide +kernel
theorem dX7_anyFits_27 : decode cX7_anyFits 27 = .ok (.laload, 1) := by decide +kernel
theorem dX7_anyFits_28 : decode cX7_anyFits 28 = .ok (.iload_n 2, 1) := by decide +kernel
theorem dX7_anyFits_29 : decode cX7_anyFits 29 = .ok (.invokestatic 98, 3) := by decide +kernel
theorem dX7_anyFits_32 : decode cX7_anyFits 32 = .ok (.ifCond .eq 7, 3) := by decide +kernel
theorem dX7_anyFits_35 : decode cX7_anyFits 35 = .ok (.iconst 0, 1) := by decide +kernel
theorem dX7_anyFits_36 : decode cX7_anyFits 36 = .ok (.goto 9, 3) := by decide +kernel
theorem dX7_anyFits_39 : decode cX7_anyFits 39 = .ok (.aload_n 0, 1) := by decide +kernel
theorem dX7_anyFits_40 : decode cX7_anyFits 40 = .ok (.iload_n 1, 1) := by decide +kernel
theorem dX7_anyFits_41 : decode cX7_anyFits 41 = .ok (.iload_n 2, 1) := by decide +kernel
theorem dX7_anyFits_42 : decode cX7_anyFits 42 = .ok (.invokevirtual 108, 3) := by decide +kernel
theorem dX7_anyFits_45 : decode cX7_anyFits 45 = .ok (.istore 4, 2) := by decide +kernel
theorem dX7_anyFits_47 : decode cX7_anyFits 47 = .ok (.aload_n 0, 1) := by decide +kernel
theorem dX7_anyFits_48 : decode cX7_anyFits 48 = .ok (.getfield 25, 3) := by decide +kernel
theorem dX7_anyFits_51 : decode cX7_anyFits 51 = .ok (.iload_n 3, 1) := by decide +kernel
theorem dX7_anyFits_52 : decode cX7_anyFits 52 = .ok (.iload 4, 2) := by decide +kernel
theorem dX7_anyFits_54 : decode cX7_anyFits 54 = .ok (.aload_n 0, 1) := by decide +kernel
theorem dX7_anyFits_55 : decode cX7_anyFits 55 = .ok (.getfield 15, 3) := by decide +kernel
theorem dX7_anyFits_58 : decode cX7_anyFits 58 = .ok (.iload_n 3, 1) := by decide +kernel
theorem dX7_anyFits_59 : decode cX7_anyFits 59 = .ok (.iaload, 1) := by decide +kernel
theorem dX7_anyFits_60 : decode cX7_anyFits 60 = .ok (.invokestatic 111, 3) := by decide +kernel
theorem dX7_anyFits_63 : decode cX7_anyFits 63 = .ok (.iastore, 1) := by decide +kernel
theorem dX7_anyFits_64 : decode cX7_anyFits 64 = .ok (.iinc 2 1, 3) := by decide +kernel
theorem dX7_anyFits_67 : decode cX7_anyFits 67 = .ok (.goto (-58), 3) := by decide +kernel
theorem dX7_anyFits_70 : decode cX7_anyFits 70 = .ok (.iinc 1 (-1), 3) := by decide +kernel
theorem dX7_anyFits_73 : decode cX7_anyFits 73 = .ok (.goto (-70), 3) := by decide +kernel
theorem dX7_anyFits_76 : decode cX7_anyFits 76 = .ok (.iconst 0, 1) := by decide +kernel
theorem dX7_anyFits_77 : decode cX7_anyFits 77 = .ok (.istore_n 1, 1) := by decide +kernel
theorem dX7_anyFits_78 : decode cX7_anyFits 78 = .ok (.iload_n 1, 1) := by decide +kernel
theorem dX7_anyFits_79 : decode cX7_anyFits 79 = .ok (.bipush 64, 2) := by decide +kernel
theorem dX7_anyFits_81 : decode cX7_anyFits 81 = .ok (.if_icmp .ge 22, 3) := by decide +kernel
theorem dX7_anyFits_84 : decode cX7_anyFits 84 = .ok (.aload_n 0, 1) := by decide +kernel
theorem dX7_anyFits_85 : decode cX7_anyFits 85 = .ok (.getfield 25, 3) := by decide +kernel
theorem dX7_anyFits_88 : decode cX7_anyFits 88 = .ok (.iload_n 1, 1) := by decide +kernel
theorem dX7_anyFits_89 : decode cX7_anyFits 89 = .ok (.iaload, 1) := by decide +kernel
theorem dX7_anyFits_90 : decode cX7_anyFits 90 = .ok (.iconst 1, 1) := by decide +kernel
theorem dX7_anyFits_91 : decode cX7_anyFits 91 = .ok (.iand, 1) := by decide +kernel
theorem dX7_anyFits_92 : decode cX7_anyFits 92 = .ok (.ifCond .eq 5, 3) := by decide +kernel
theorem dX7_anyFits_95 : decode cX7_anyFits 95 = .ok (.iconst 1, 1) := by decide +kernel
theorem dX7_anyFits_96 : decode cX7_anyFits 96 = .ok (.ireturn, 1) := by decide +kernel
theorem dX7_anyFits_97 : decode cX7_anyFits 97 = .ok (.iinc 1 1, 3) := by decide +kernel
theorem dX7_anyFits_100 : decode cX7_anyFits 100 = .ok (.goto (-22), 3) := by decide +kernel
theorem dX7_anyFits_103 : decode cX7_anyFits 103 = .ok (.iconst 0, 1) := by decide +kernel
theorem dX7_anyFits_104 : decode cX7_anyFits 104 = .ok (.ireturn, 1) := by decide +kernel
set_option maxHeartbeats 4000000 in
set_option maxRecDepth 100000 in
theorem kX11_isOn_5 (l : Launch) (G : g5_G) (sz : Nat) (n0 : Int32) (h_n0 : 0 ≤ n0.toInt ∧ n0.toInt ≤ 63) : Met l yX11_isOn (wsG yX11_isOn cX11_isOn 3 (some .boolean)) ({ frames := 0, cells := 0, slots := 0, locals := 0 }) (va_Pc [.long 0, .int n0] (g5_P G [] sz)) (va_Qi (fun (r : Int32) (u : va_W) => ((r = 0) ∧ (u = []))) (g5_B G (va_A [] sz)) (va_A [] sz)) 0 0 (va_A [] sz) := by
  refine Met.ofW (cc := cX11_isOn) (maxL := 3) (ret := (some .boolean)) (by decide) rfl ?_
  intro p e s m args below meth c s₁ B hml hv
  obtain ⟨rfl, hsz, hP, hK, hD0, hN, hT⟩ := hv
  have hx := B.exec
  have hb := B.bytes
  have hr := B.returns
  have hts : ∀ w ∈ tblG, w.before _ s = true := fun w h => atoms_spec (ws := (wsG yX11_isOn cX11_isOn 3 (some .boolean))) B.pre w (List.mem_cons_of_mem _ h)
  have hown : s.vm.findClass RX11 = some m.cls := findClass_of_methodNamed B.named
  have hlocks := B.notSynchronized
  subst hsz
  have hD := hD0.self (sz := s.heap.size)
  generalize hAe : va_A [] s.heap.size = A at hD hT ⊢
  have hA : ∀ q : Nat, s.heap.size ≤ q → A q := fun q h => by rw [← hAe]; exact Or.inr h
  have hS : va_S A s.heap s.heap [] := va_S.rf
  have hP : va_P G.1 vwCl [] s.heap := hP
  have hl := lv_entry ([.long 0, .int n0]) (n := 3) (Nat.le_of_ble_eq_true rfl)
  rw [lg_entry_eq]
  generalize (lg_sl ([.long 0, .int n0]) ++ List.replicate (3 - (lg_sl ([.long 0, .int n0])).length) Slot.unset).toArray = ls at hl ⊢
  have hl : lv_has ls 3 [(0, .long 0), (2, .int n0)] := hl
  refine lv_lload_n hx hb dX11_isOn_0 rfl (lv_at hl 0 rfl) ?_
  refine lv_iload_n hx hb dX11_isOn_1 rfl (lv_at hl 1 rfl) ?_
  refine lv_lushr (v := 0) hx hb dX11_isOn_2 (g5_sh0 _) ?_
  refine lv_lconst (v := 1) hx hb dX11_isOn_3 (by decide) ?_
  refine lv_land hx hb dX11_isOn_4 ?_
  refine g5_tl (v := 0) (by decide) ?_
  refine lv_lconst (v := 0) hx hb dX11_isOn_5 (by decide) ?_
  refine W.lcmp hx hb dX11_isOn_6 ?_
  refine g5_ti (v := 0) (by decide) ?_
  refine lv_if_eq (tgt := 14) hx hb dX11_isOn_7 (by decide) (fun c_1 => ?_) (fun c_1 => ?_)
  ·
    refine lv_iconst (v := 0) hx hb dX11_isOn_14 (by decide) ?_
    exact W.zret (v := 0) hx hb hr rfl (fun t ht hW => ⟨⟨0, [], rfl, ⟨rfl, rfl⟩, by rw [ht]; exact hP, hD⟩, hS.F ht⟩) hS.2.2 dX11_isOn_15
  ·
    exact absurd c_1 (by decide)
theorem ml_X7_108 : Cond.methodLink RX7 108 yX7_hopesBehind ∈ tblG := tg 1000 (by decide +kernel) (by decide +kernel)
theorem im_X7_hopesBehind : Cond.instanceMethod yX7_hopesBehind ∈ tblG := tg 1002 (by decide +kernel) (by decide +kernel)
theorem se_X7_hopesBehind : Cond.selects RX7 yX7_hopesBehind yX7_hopesBehind ∈ tblG := tg 23 (by decide +kernel) (by decide +kernel)
theorem cd_X7_hopesBehind : Cond.code yX7_hopesBehind cX7_hopesBehind 6 (some .int) ∈ tblG := tg 1003 (by decide +kernel) (by decide +kernel)
theorem gW_X7_hopesBehind : GoodIn tblG (wsG yX7_hopesBehind cX7_hopesBehind 6 (some .int)) := tgi cd_X7_hopesBehind
theorem gV_X7_108 : GoodIn tblG (wsV RX7 108 RX7 yX7_hopesBehind (wsG yX7_hopesBehind cX7_hopesBehind 6 (some .int))) := tgV ml_X7_108 im_X7_hopesBehind se_X7_hopesBehind ini_X7 gW_X7_hopesBehind
theorem hv_X7_hopesBehind : yX7_hopesBehind.cls = RX7 ∧ yX7_hopesBehind.cls ≠ "java/lang/invoke/MethodHandle" ∧ yX7_hopesBehind.cls ≠ "java/lang/invoke/VarHandle" ∧ (parseMethodDescriptor yX7_hopesBehind.desc).map (fun d => d.parameters.length) = some 2 := by decide +kernel
theorem dX7_masksBefore_0 : decode cX7_masksBefore 0 = .ok (.iload_n 0, 1) := by decide +kernel
theorem dX7_masksBefore_1 : decode cX7_masksBefore 1 = .ok (.istore_n 2, 1) := by decide +kernel
theorem dX7_masksBefore_2 : decode cX7_masksBefore 2 = .ok (.iconst 0, 1) := by decide +kernel
theorem dX7_masksBefore_3 : decode cX7_masksBefore 3 = .ok (.istore_n 3, 1) := by decide +kernel
theorem dX7_masksBefore_4 : decode cX7_masksBefore 4 = .ok (.iload_n 3, 1) := by decide +kernel
theorem dX7_masksBefore_5 : decode cX7_masksBefore 5 = .ok (.getstatic 114, 3) := by decide +kernel
theorem dX7_masksBefore_8 : decode cX7_masksBefore 8 = .ok (.arraylength, 1) := by decide +kernel
theorem dX7_masksBefore_9 : decode cX7_masksBefore 9 = .ok (.if_icmp .ge 37, 3) := by decide +kernel
theorem dX7_masksBefore_12 : decode cX7_masksBefore 12 = .ok (.iload_n 1, 1) := by decide +kernel
theorem dX7_masksBefore_13 : decode cX7_masksBefore 13 = .ok (.ifCond .eq 33, 3) := by decide +kernel
theorem dX7_masksBefore_16 : decode cX7_masksBefore 16 = .ok (.iload_n 1, 1) := by decide +kernel
theorem dX7_masksBefore_17 : decode cX7_masksBefore 17 = .ok (.iload_n 3, 1) := by decide +kernel
theorem dX7_masksBefore_18 : decode cX7_masksBefore 18 = .ok (.ishr, 1) := by decide +kernel
theorem dX7_masksBefore_19 : decode cX7_masksBefore 19 = .ok (.iconst 1, 1) := by decide +kernel
theorem dX7_masksBefore_20 : decode cX7_masksBefore 20 = .ok (.iand, 1) := by decide +kernel
theorem dX7_masksBefore_21 : decode cX7_masksBefore 21 = .ok (.ifCond .eq 19, 3) := by decide +kernel
theorem dX7_masksBefore_24 : decode cX7_masksBefore 24 = .ok (.iload_n 2, 1) := by decide +kernel
theorem dX7_masksBefore_25 : decode cX7_masksBefore 25 = .ok (.getstatic 114, 3) := by decide +kernel
theorem dX7_masksBefore_28 : decode cX7_masksBefore 28 = .ok (.iload_n 3, 1) := by decide +kernel
theorem dX7_masksBefore_29 : decode cX7_masksBefore 29 = .ok (.iaload, 1) := by decide +kernel
theorem dX7_masksBefore_30 : decode cX7_masksBefore 30 = .ok (.iand, 1) := by decide +kernel
theorem dX7_masksBefore_31 : decode cX7_masksBefore 31 = .ok (.istore_n 2, 1) := by decide +kernel
theorem dX7_masksBefore_32 : decode cX7_masksBefore 32 = .ok (.iload_n 2, 1) := by decide +kernel
theorem dX7_masksBefore_33 : decode cX7_masksBefore 33 = .ok (.iload_n 2, 1) := by decide +kernel
theorem dX7_masksBefore_34 : decode cX7_masksBefore 34 = .ok (.iconst 1, 1) := by decide +kernel
theorem dX7_masksBefore_35 : decode cX7_masksBefore 35 = .ok (.iload_n 3, 1) := by decide +kernel
theorem dX7_masksBefore_36 : decode cX7_masksBefore 36 = .ok (.ishl, 1) := by decide +kernel
theorem dX7_masksBefore_37 : decode cX7_masksBefore 37 = .ok (.iushr, 1) := by decide +kernel
theorem dX7_masksBefore_38 : decode cX7_masksBefore 38 = .ok (.ior, 1) := by decide +kernel
theorem dX7_masksBefore_39 : decode cX7_masksBefore 39 = .ok (.istore_n 2, 1) := by decide +kernel
theorem dX7_masksBefore_40 : decode cX7_masksBefore 40 = .ok (.iinc 3 1, 3) := by decide +kernel
theorem dX7_masksBefore_43 : decode cX7_masksBefore 43 = .ok (.goto (-39), 3) := by decide +kernel
theorem dX7_masksBefore_46 : decode cX7_masksBefore 46 = .ok (.iload_n 2, 1) := by decide +kernel
theorem dX7_masksBefore_47 : decode cX7_masksBefore 47 = .ok (.ireturn, 1) := by decide +kernel
set_option maxHeartbeats 4000000 in
set_option maxRecDepth 100000 in
theorem kX7_masksBefore (l : Launch) (G : g5_G) (sz : Nat) : Met l yX7_masksBefore (wsG yX7_masksBefore cX7_masksBefore 4 (some .int)) ({ frames := 0, cells := 0, slots := 0, locals := 0 }) (va_Pc [.int 1, .int 0] (g5_P G [] sz)) (va_Qi (fun (r : Int32) (u : va_W) => ((r = 1) ∧ (u = []))) (g5_B G (va_A [] sz)) (va_A [] sz)) 0 0 (va_A [] sz) := by
  refine Met.ofW (cc := cX7_masksBefore) (maxL := 4) (ret := (some .int)) (by decide) rfl ?_
  intro p e s m args below meth c s₁ B hml hv
  obtain ⟨rfl, hsz, hP, hK, hD0, hN, hT⟩ := hv
  have hx := B.exec
  have hb := B.bytes
  have hr := B.returns
  have hts : ∀ w ∈ tblG, w.before _ s = true := fun w h => atoms_spec (ws := (wsG yX7_masksBefore cX7_masksBefore 4 (some .int))) B.pre w (List.mem_cons_of_mem _ h)
  have hown : s.vm.findClass RX7 = some m.cls := findClass_of_methodNamed B.named
  have hlocks := B.notSynchronized
  subst hsz
  have hD := hD0.self (sz := s.heap.size)
  generalize hAe : va_A [] s.heap.size = A at hD hT ⊢
  have hA : ∀ q : Nat, s.heap.size ≤ q → A q := fun q h => by rw [← hAe]; exact Or.inr h
  have hS : va_S A s.heap s.heap [] := va_S.rf
  have hP : va_P G.1 vwCl [] s.heap := hP
  have hl := lv_entry ([.int 1, .int 0]) (n := 4) (Nat.le_of_ble_eq_true rfl)
  rw [lg_entry_eq]
  generalize (lg_sl ([.int 1, .int 0]) ++ List.replicate (4 - (lg_sl ([.int 1, .int 0])).length) Slot.unset).toArray = ls at hl ⊢
  have hl : lv_has ls 4 [(0, .int 1), (1, .int 0)] := hl
  refine lv_iload_n hx hb dX7_masksBefore_0 rfl (lv_at hl 0 rfl) ?_
  refine lv_istore_n (lv' := [(2, .int 1), (0, .int 1), (1, .int 0)]) hx hb dX7_masksBefore_1 rfl hl (by decide) rfl (fun ls hl => ?_)
  refine lv_iconst (v := 0) hx hb dX7_masksBefore_2 (by decide) ?_
  refine lv_istore_n (lv' := [(3, .int 0), (2, .int 1), (0, .int 1), (1, .int 0)]) hx hb dX7_masksBefore_3 rfl hl (by decide) rfl (fun ls hl => ?_)
  refine lv_iload_n hx hb dX7_masksBefore_4 rfl (lv_at hl 0 rfl) ?_
  obtain ⟨tH, tL, hZH, hTH, hZL, hTL⟩ := id hT
  refine va_getsN hx hb hZH hS hown (hN.1 _ g5_nw_X7_114) (fun _ h9 => h9) dX7_masksBefore_5 ?_
  refine va_tlen hx hb hTH hS (v := 5) (by decide) dX7_masksBefore_8 ?_
  refine lv_icmp_ge (tgt := 46) hx hb dX7_masksBefore_9 (by decide) (fun c_1 => ?_) (fun c_1 => ?_)
  ·
    exact absurd c_1 (by decide)
  ·
    refine lv_iload_n hx hb dX7_masksBefore_12 rfl (lv_at hl 3 rfl) ?_
    refine lv_if_eq (tgt := 46) hx hb dX7_masksBefore_13 (by decide) (fun c_2 => ?_) (fun c_2 => ?_)
    ·
      refine lv_iload_n hx hb dX7_masksBefore_46 rfl (lv_at hl 1 rfl) ?_
      exact W.iret (v := 1) hx hb hr (fun t ht hW => ⟨⟨1, [], rfl, ⟨rfl, rfl⟩, by rw [ht]; exact hP, hD⟩, hS.F ht⟩) hS.2.2 dX7_masksBefore_47
    ·
      exact absurd c_2 (by decide)
theorem ml_X7_111 : Cond.methodLink RX7 111 yX7_masksBefore ∈ tblG := tg 1004 (by decide +kernel) (by decide +kernel)
theorem st_X7_masksBefore : Cond.static yX7_masksBefore ∈ tblG := tg 1005 (by decide +kernel) (by decide +kernel)
theorem cd_X7_masksBefore : Cond.code yX7_masksBefore cX7_masksBefore 4 (some .int) ∈ tblG := tg 1006 (by decide +kernel) (by decide +kernel)
theorem gW_X7_masksBefore : GoodIn tblG (wsG yX7_masksBefore cX7_masksBefore 4 (some .int)) := tgi cd_X7_masksBefore
theorem gS_X7_111 : GoodIn tblG (va_wsS RX7 111 yX7_masksBefore (wsG yX7_masksBefore cX7_masksBefore 4 (some .int))) := tgS ml_X7_111 st_X7_masksBefore ini_X7 gW_X7_masksBefore
theorem hs_X7_masksBefore : yX7_masksBefore.cls ≠ "java/lang/invoke/MethodHandle" ∧ yX7_masksBefore.cls ≠ "java/lang/invoke/VarHandle" ∧ (parseMethodDescriptor yX7_masksBefore.desc).map (fun d => d.parameters.length) = some 2 := by decide +kernel
set_option maxHeartbeats 4000000 in
set_option maxRecDepth 100000 in
theorem k_anyFits (l : Launch) (G : g5_G) (a_49 a_50 a_51 a_54 a_1 a_42 a_52 a_53 a_55 a_56 : Nat) (sz : Nat) (f_h : Nat → Int32) : Met l yX7_anyFits (wsG yX7_anyFits cX7_anyFits 5 (some .boolean)) ({ frames := 2, cells := 0, slots := 0, locals := 46 }) (va_Pc [.ref a_49] (g5_P G [(a_49, .inr (7, [.ref a_1, .ref a_42, .ref a_50, .ref a_51, .int 0, .ref a_52, .ref a_53, .ref a_54, .ref a_55, .ref a_56])), (a_50, .inl (G.2 1, 24, .inr (.inl (fun _ => 0)))), (a_51, .inl (G.2 0, 1536, .inl (fun _ => 0))), (a_54, .inl (G.2 0, 1536, .inl f_h))] sz)) (va_Qi (fun (r : Int32) (u : va_W) => (∃ (o_h : Nat → Int32), (∀ j : Nat, 0 ≤ (j : Int) → (j : Int) < 1536 → o_h j = 1) ∧ (r = 1) ∧ (u = [(a_49, .inr (7, [.ref a_1, .ref a_42, .ref a_50, .ref a_51, .int 0, .ref a_52, .ref a_53, .ref a_54, .ref a_55, .ref a_56])), (a_50, .inl (G.2 1, 24, .inr (.inl (fun _ => 0)))), (a_51, .inl (G.2 0, 1536, .inl (fun _ => 0))), (a_54, .inl (G.2 0, 1536, .inl o_h))]))) (g5_B G (va_A [(a_49, .inr (7, [.ref a_1, .ref a_42, .ref a_50, .ref a_51, .int 0, .ref a_52, .ref a_53, .ref a_54, .ref a_55, .ref a_56])), (a_50, .inl (G.2 1, 24, .inr (.inl (fun _ => 0)))), (a_51, .inl (G.2 0, 1536, .inl (fun _ => 0))), (a_54, .inl (G.2 0, 1536, .inl f_h))] sz)) (va_A [(a_49, .inr (7, [.ref a_1, .ref a_42, .ref a_50, .ref a_51, .int 0, .ref a_52, .ref a_53, .ref a_54, .ref a_55, .ref a_56])), (a_50, .inl (G.2 1, 24, .inr (.inl (fun _ => 0)))), (a_51, .inl (G.2 0, 1536, .inl (fun _ => 0))), (a_54, .inl (G.2 0, 1536, .inl f_h))] sz)) 0 0 (va_A [(a_49, .inr (7, [.ref a_1, .ref a_42, .ref a_50, .ref a_51, .int 0, .ref a_52, .ref a_53, .ref a_54, .ref a_55, .ref a_56])), (a_50, .inl (G.2 1, 24, .inr (.inl (fun _ => 0)))), (a_51, .inl (G.2 0, 1536, .inl (fun _ => 0))), (a_54, .inl (G.2 0, 1536, .inl f_h))] sz) := by
  refine Met.ofW (cc := cX7_anyFits) (maxL := 5) (ret := (some .boolean)) (by decide) rfl ?_
  intro p e s m args below meth c s₁ B hml hv
  obtain ⟨rfl, hsz, hP, hK, hD0, hN, hT⟩ := hv
  have hx := B.exec
  have hb := B.bytes
  have hr := B.returns
  have hts : ∀ w ∈ tblG, w.before _ s = true := fun w h => atoms_spec (ws := (wsG yX7_anyFits cX7_anyFits 5 (some .boolean))) B.pre w (List.mem_cons_of_mem _ h)
  have hown : s.vm.findClass RX7 = some m.cls := findClass_of_methodNamed B.named
  have hlocks := B.notSynchronized
  subst hsz
  have hD := hD0.self (sz := s.heap.size)
  generalize hAe : va_A [(a_49, .inr (7, [.ref a_1, .ref a_42, .ref a_50, .ref a_51, .int 0, .ref a_52, .ref a_53, .ref a_54, .ref a_55, .ref a_56])), (a_50, .inl (G.2 1, 24, .inr (.inl (fun _ => 0)))), (a_51, .inl (G.2 0, 1536, .inl (fun _ => 0))), (a_54, .inl (G.2 0, 1536, .inl f_h))] s.heap.size = A at hD hT ⊢
  have hA : ∀ q : Nat, s.heap.size ≤ q → A q := fun q h => by rw [← hAe]; exact Or.inr h
  have hS : va_S A s.heap s.heap [] := va_S.rf
  have hP : va_P G.1 vwCl [(a_49, .inr (7, [.ref a_1, .ref a_42, .ref a_50, .ref a_51, .int 0, .ref a_52, .ref a_53, .ref a_54, .ref a_55, .ref a_56])), (a_50, .inl (G.2 1, 24, .inr (.inl (fun _ => 0)))), (a_51, .inl (G.2 0, 1536, .inl (fun _ => 0))), (a_54, .inl (G.2 0, 1536, .inl f_h))] s.heap := hP
  have hl := lv_entry ([.ref a_49]) (n := 5) (Nat.le_of_ble_eq_true rfl)
  rw [lg_entry_eq]
  generalize (lg_sl ([.ref a_49]) ++ List.replicate (5 - (lg_sl ([.ref a_49])).length) Slot.unset).toArray = ls at hl ⊢
  have hl : lv_has ls 5 [(0, .ref a_49)] := hl
  refine lv_bipush (v := 23) hx hb dX7_anyFits_0 (by decide) ?_
  refine lv_istore_n (lv' := [(1, .int 23), (0, .ref a_49)]) hx hb dX7_anyFits_2 rfl hl (by decide) rfl (fun ls hl => ?_)
  refine g5_loop (α := (Int32) × (Nat → Int32)) (fun (q : (Int32) × (Nat → Int32)) (ls : Array Slot) (H : Heap) (locs : List Loc) => match q with | (k_h, k_f) => lv_has ls 5 [(1, .int k_h), (0, .ref a_49)] ∧ va_P G.1 vwCl [(a_49, .inr (7, [.ref a_1, .ref a_42, .ref a_50, .ref a_51, .int 0, .ref a_52, .ref a_53, .ref a_54, .ref a_55, .ref a_56])), (a_50, .inl (G.2 1, 24, .inr (.inl (fun _ => 0)))), (a_51, .inl (G.2 0, 1536, .inl (fun _ => 0))), (a_54, .inl (G.2 0, 1536, .inl k_f))] H ∧ va_D A [(a_49, .inr (7, [.ref a_1, .ref a_42, .ref a_50, .ref a_51, .int 0, .ref a_52, .ref a_53, .ref a_54, .ref a_55, .ref a_56])), (a_50, .inl (G.2 1, 24, .inr (.inl (fun _ => 0)))), (a_51, .inl (G.2 0, 1536, .inl (fun _ => 0))), (a_54, .inl (G.2 0, 1536, .inl k_f))] ∧ va_S A s.heap H locs ∧ ((-1) ≤ k_h.toInt ∧ k_h.toInt ≤ 23) ∧ (∀ j : Nat, (k_h.toInt + 1) * 64 ≤ (j : Int) → (j : Int) < 1536 → k_f j = 1)) (fun (q : (Int32) × (Nat → Int32)) => match q with | (k_h, k_f) => Int.toNat (k_h.toInt + 1)) (23, f_h) ⟨lv_sub hl [0, 1] rfl, hP, hD, hS, ⟨by decide, by decide⟩, fun j h1 h2 => absurd h1 (by have z : (23 : Int32).toInt = 23 := (by decide); omega)⟩ ?_
  rintro ⟨k_h, k_f⟩ ls H locs ⟨hl, hP, hD, hS, i_1, i_2⟩ ih_3_3
  have hl : lv_has ls 5 [(1, .int k_h), (0, .ref a_49)] := hl
  have i_1 : (-1) ≤ k_h.toInt ∧ k_h.toInt ≤ 23 := i_1
  have i_2 : ∀ j : Nat, (k_h.toInt + 1) * 64 ≤ (j : Int) → (j : Int) < 1536 → k_f j = 1 := i_2
  have hP : va_P G.1 vwCl [(a_49, .inr (7, [.ref a_1, .ref a_42, .ref a_50, .ref a_51, .int 0, .ref a_52, .ref a_53, .ref a_54, .ref a_55, .ref a_56])), (a_50, .inl (G.2 1, 24, .inr (.inl (fun _ => 0)))), (a_51, .inl (G.2 0, 1536, .inl (fun _ => 0))), (a_54, .inl (G.2 0, 1536, .inl k_f))] H := hP
  have hD : va_D A [(a_49, .inr (7, [.ref a_1, .ref a_42, .ref a_50, .ref a_51, .int 0, .ref a_52, .ref a_53, .ref a_54, .ref a_55, .ref a_56])), (a_50, .inl (G.2 1, 24, .inr (.inl (fun _ => 0)))), (a_51, .inl (G.2 0, 1536, .inl (fun _ => 0))), (a_54, .inl (G.2 0, 1536, .inl k_f))] := hD
  refine lv_iload_n hx hb dX7_anyFits_3 rfl (lv_at hl 0 rfl) ?_
  refine lv_if_lt (tgt := 76) hx hb dX7_anyFits_4 (by decide) (fun c_4 => ?_) (fun c_4 => ?_)
  ·
    have i_4 : k_h.toInt < 0 := by have z := g5_lt (a := k_h.toInt) (b := 0) (by rfl) (by decide) c_4; omega
    refine lv_iconst (v := 0) hx hb dX7_anyFits_76 (by decide) ?_
    refine lv_istore_n (lv' := [(1, .int 0), (0, .ref a_49)]) hx hb dX7_anyFits_77 rfl hl (by decide) rfl (fun ls hl => ?_)
    refine lv_iload_n hx hb dX7_anyFits_78 rfl (lv_at hl 0 rfl) ?_
    refine lv_bipush (v := 64) hx hb dX7_anyFits_79 (by decide) ?_
    refine lv_icmp_ge (tgt := 103) hx hb dX7_anyFits_81 (by decide) (fun c_5 => ?_) (fun c_5 => ?_)
    ·
      exact absurd c_5 (by decide)
    ·
      refine lv_aload_n hx hb dX7_anyFits_84 rfl (lv_at hl 1 rfl) ?_
      refine va_get (D := G.1) (ci := 7) (v := .ref a_54) (C := RX7) (T := TX7) (N := 10) hx hb hts inG_X7 hown hK hP 0 rfl rfl 7 (by decide) (hts _ fl_X7_25) (fun _ h9 => h9) rfl dX7_anyFits_85 ?_
      refine lv_iload_n hx hb dX7_anyFits_88 rfl (lv_at hl 0 rfl) ?_
      refine va_iald hx hb hK hP 3 0 rfl rfl (i := 0) (by unfold vp_in; decide) dX7_anyFits_89 ?_
      refine g5_ti (v := 1) (show k_f 0 = 1 from i_2 0 (by omega) (by omega)) ?_
      refine lv_iconst (v := 1) hx hb dX7_anyFits_90 (by decide) ?_
      refine lv_iand hx hb dX7_anyFits_91 ?_
      refine g5_ti (v := 1) (by decide) ?_
      refine lv_if_eq (tgt := 97) hx hb dX7_anyFits_92 (by decide) (fun c_6 => ?_) (fun c_6 => ?_)
      ·
        exact absurd c_6 (by decide)
      ·
        refine lv_iconst (v := 1) hx hb dX7_anyFits_95 (by decide) ?_
        exact W.zret (v := 1) hx hb hr rfl (fun t ht hW => ⟨⟨1, [(a_49, .inr (7, [.ref a_1, .ref a_42, .ref a_50, .ref a_51, .int 0, .ref a_52, .ref a_53, .ref a_54, .ref a_55, .ref a_56])), (a_50, .inl (G.2 1, 24, .inr (.inl (fun _ => 0)))), (a_51, .inl (G.2 0, 1536, .inl (fun _ => 0))), (a_54, .inl (G.2 0, 1536, .inl k_f))], rfl, ⟨k_f, fun j h1 h2 => i_2 j (by omega) h2, rfl, rfl⟩, by rw [ht]; exact hP.sub [0, 1, 2, 3] rfl, hD.sub [0, 1, 2, 3] (by decide) rfl⟩, hS.F ht⟩) hS.2.2 dX7_anyFits_96
  ·
    have i_4 : k_h.toInt ≥ 0 := by have z := g5_ltN (a := k_h.toInt) (b := 0) (by rfl) (by decide) c_4; omega
    refine lv_iconst (v := 0) hx hb dX7_anyFits_7 (by decide) ?_
    refine lv_istore_n (lv' := [(2, .int 0), (1, .int k_h), (0, .ref a_49)]) hx hb dX7_anyFits_8 rfl hl (by decide) rfl (fun ls hl => ?_)
    refine g5_loop (α := (Int32) × (Nat → Int32)) (fun (q : (Int32) × (Nat → Int32)) (ls : Array Slot) (H : Heap) (locs : List Loc) => match q with | (k_c, k_g) => lv_has ls 5 [(2, .int k_c), (1, .int k_h), (0, .ref a_49)] ∧ va_P G.1 vwCl [(a_49, .inr (7, [.ref a_1, .ref a_42, .ref a_50, .ref a_51, .int 0, .ref a_52, .ref a_53, .ref a_54, .ref a_55, .ref a_56])), (a_50, .inl (G.2 1, 24, .inr (.inl (fun _ => 0)))), (a_51, .inl (G.2 0, 1536, .inl (fun _ => 0))), (a_54, .inl (G.2 0, 1536, .inl k_g))] H ∧ va_D A [(a_49, .inr (7, [.ref a_1, .ref a_42, .ref a_50, .ref a_51, .int 0, .ref a_52, .ref a_53, .ref a_54, .ref a_55, .ref a_56])), (a_50, .inl (G.2 1, 24, .inr (.inl (fun _ => 0)))), (a_51, .inl (G.2 0, 1536, .inl (fun _ => 0))), (a_54, .inl (G.2 0, 1536, .inl k_g))] ∧ va_S A s.heap H locs ∧ (0 ≤ k_c.toInt ∧ k_c.toInt ≤ 64) ∧ (∀ j : Nat, (k_h.toInt + 1) * 64 ≤ (j : Int) → (j : Int) < 1536 → k_g j = 1) ∧ (∀ j : Nat, k_h.toInt * 64 ≤ (j : Int) → (j : Int) < k_h.toInt * 64 + k_c.toInt → k_g j = 1)) (fun (q : (Int32) × (Nat → Int32)) => match q with | (k_c, k_g) => Int.toNat (64 - k_c.toInt)) (0, k_f) ⟨lv_sub hl [0, 1, 2] rfl, hP, hD, hS, ⟨by decide, by decide⟩, i_2, fun j h1 h2 => absurd h2 (by have z : (0 : Int32).toInt = 0 := (by decide); omega)⟩ ?_
    rintro ⟨k_c, k_g⟩ ls H locs ⟨hl, hP, hD, hS, i_7, i_8, i_9⟩ ih_9_10
    have hl : lv_has ls 5 [(2, .int k_c), (1, .int k_h), (0, .ref a_49)] := hl
    have i_7 : 0 ≤ k_c.toInt ∧ k_c.toInt ≤ 64 := i_7
    have i_8 : ∀ j : Nat, (k_h.toInt + 1) * 64 ≤ (j : Int) → (j : Int) < 1536 → k_g j = 1 := i_8
    have i_9 : ∀ j : Nat, k_h.toInt * 64 ≤ (j : Int) → (j : Int) < k_h.toInt * 64 + k_c.toInt → k_g j = 1 := i_9
    have hP : va_P G.1 vwCl [(a_49, .inr (7, [.ref a_1, .ref a_42, .ref a_50, .ref a_51, .int 0, .ref a_52, .ref a_53, .ref a_54, .ref a_55, .ref a_56])), (a_50, .inl (G.2 1, 24, .inr (.inl (fun _ => 0)))), (a_51, .inl (G.2 0, 1536, .inl (fun _ => 0))), (a_54, .inl (G.2 0, 1536, .inl k_g))] H := hP
    have hD : va_D A [(a_49, .inr (7, [.ref a_1, .ref a_42, .ref a_50, .ref a_51, .int 0, .ref a_52, .ref a_53, .ref a_54, .ref a_55, .ref a_56])), (a_50, .inl (G.2 1, 24, .inr (.inl (fun _ => 0)))), (a_51, .inl (G.2 0, 1536, .inl (fun _ => 0))), (a_54, .inl (G.2 0, 1536, .inl k_g))] := hD
    refine lv_iload_n hx hb dX7_anyFits_9 rfl (lv_at hl 0 rfl) ?_
    refine lv_bipush (v := 64) hx hb dX7_anyFits_10 (by decide) ?_
    refine lv_icmp_ge (tgt := 70) hx hb dX7_anyFits_12 (by decide) (fun c_11 => ?_) (fun c_11 => ?_)
    ·
      have i_11 : k_c.toInt ≥ 64 := by have z := g5_ge (a := k_c.toInt) (b := 64) (by rfl) (by decide) c_11; omega
      refine lv_iinc (v := (k_h + (-1))) (lv' := [(1, .int (k_h + (-1))), (2, .int k_c), (0, .ref a_49)]) hx hb dX7_anyFits_70 hl (k := 1) rfl rfl (by decide) rfl (fun ls hl => ?_)
      have t_12 : (k_h + (-1)).toInt = k_h.toInt + (-1) := g5_iadd (a := k_h.toInt) (b := (-1)) rfl (by decide) (by omega) (by omega)
      refine lv_goto (tgt := 3) hx hb dX7_anyFits_73 (by decide) ?_
      exact ih_3_3 ((k_h + (-1)), k_g) ls H locs (show Int.toNat ((k_h + (-1)).toInt + 1) < Int.toNat (k_h.toInt + 1) by omega) ⟨lv_sub hl [0, 2] rfl, hP, hD, hS, ⟨by omega, by omega⟩, fun j h1 h2 => by by_cases hz : (j : Int) < k_h.toInt * 64 + 64; exact i_9 j (by omega) (by omega); exact i_8 j (by omega) (by omega)⟩
    ·
      have i_11 : k_c.toInt < 64 := by have z := g5_geN (a := k_c.toInt) (b := 64) (by rfl) (by decide) c_11; omega
      refine lv_iload_n hx hb dX7_anyFits_15 rfl (lv_at hl 1 rfl) ?_
      refine lv_bipush (v := 64) hx hb dX7_anyFits_16 (by decide) ?_
      refine lv_imul hx hb dX7_anyFits_18 ?_
      have t_13 : (k_h * 64).toInt = k_h.toInt * 64 := g5_imul (a := k_h.toInt) (b := 64) (by rfl) (by decide) (by omega) (by omega)
      refine lv_iload_n hx hb dX7_anyFits_19 rfl (lv_at hl 0 rfl) ?_
      refine lv_iadd hx hb dX7_anyFits_20 ?_
      have t_14 : ((k_h * 64) + k_c).toInt = (k_h * 64).toInt + k_c.toInt := g5_iadd (a := (k_h * 64).toInt) (b := k_c.toInt) (by rfl) (by rfl) (by omega) (by omega)
      refine lv_istore_n (lv' := [(3, .int ((k_h * 64) + k_c)), (2, .int k_c), (1, .int k_h), (0, .ref a_49)]) hx hb dX7_anyFits_21 rfl hl (by decide) rfl (fun ls hl => ?_)
      refine lv_aload_n hx hb dX7_anyFits_22 rfl (lv_at hl 3 rfl) ?_
      refine va_get (D := G.1) (ci := 7) (v := .ref a_50) (C := RX7) (T := TX7) (N := 10) hx hb hts inG_X7 hown hK hP 0 rfl rfl 2 (by decide) (hts _ fl_X7_9) (fun _ h9 => h9) rfl dX7_anyFits_23 ?_
      refine lv_iload_n hx hb dX7_anyFits_26 rfl (lv_at hl 2 rfl) ?_
      refine va_lald hx hb hK hP 1 1 rfl rfl (i := k_h) (vp_in_iff.mpr ⟨by omega, by omega⟩) dX7_anyFits_27 ?_
      refine g5_tl (v := 0) rfl ?_
      refine lv_iload_n hx hb dX7_anyFits_28 rfl (lv_at hl 1 rfl) ?_
      have hPc := hP.sub (ws' := []) [] rfl
      have hDc := hD.sub (ws' := []) [] (by decide) rfl
      have hFc := va_free (wc := []) hD hS hA [] rfl
      refine va_calli (va_runSN (As := [.long 0, .int k_c]) (rest := []) ⟨hx, hb, hml, hown, hts⟩ (kX11_isOn_5 l G H.size k_c ⟨by omega, by omega⟩) ⟨va_cnB 2 hts gW_X11_isOn rfl rfl rfl (hN.1 _ g5_nw_X7_98) (hts _ ini_X11) hs_X11_isOn ⟨Nat.le_of_ble_eq_true rfl, Nat.le_of_ble_eq_true rfl⟩, hts _ st_X11_isOn, trivial⟩ (g5_preS hPc hK hDc hN hT hS hFc) rfl rfl hl.1 rfl (lv_room (Nat.le_of_ble_eq_true rfl)) dX7_anyFits_29 ⟨Nat.le_of_ble_eq_true rfl, Nat.le_of_ble_eq_true rfl⟩) hS (fun q _ h => hFc q h) hFc (fun r u t H1 locs ht hvm hw hB hz1 hk1 hS => ?_)
      obtain ⟨hP1, hD1⟩ := hB
      rw [ht] at hP1
      obtain ⟨rfl, rfl⟩ := hw
      have hP := g5_same hP hk1
      generalize H1 = H at hP hS ⊢
      refine lv_if_eq (tgt := 39) hx hb dX7_anyFits_32 (by decide) (fun c_15 => ?_) (fun c_15 => ?_)
      ·
        refine lv_aload_n hx hb dX7_anyFits_39 rfl (lv_at hl 3 rfl) ?_
        refine lv_iload_n hx hb dX7_anyFits_40 rfl (lv_at hl 2 rfl) ?_
        refine lv_iload_n hx hb dX7_anyFits_41 rfl (lv_at hl 1 rfl) ?_
        have hPc := hP.sub (ws' := [(a_49, .inr (7, [.ref a_1, .ref a_42, .ref a_50, .ref a_51, .int 0, .ref a_52, .ref a_53, .ref a_54, .ref a_55, .ref a_56])), (a_54, .inl (G.2 0, 1536, .inl k_g))]) [0, 3] rfl
        have hDc := hD.sub (ws' := [(a_49, .inr (7, [.ref a_1, .ref a_42, .ref a_50, .ref a_51, .int 0, .ref a_52, .ref a_53, .ref a_54, .ref a_55, .ref a_56])), (a_54, .inl (G.2 0, 1536, .inl k_g))]) [0, 3] (by decide) rfl
        have hFc := va_free (wc := [(a_49, .inr (7, [.ref a_1, .ref a_42, .ref a_50, .ref a_51, .int 0, .ref a_52, .ref a_53, .ref a_54, .ref a_55, .ref a_56])), (a_54, .inl (G.2 0, 1536, .inl k_g))]) hD hS hA [0, 3] rfl
        refine va_calli (va_runV (As := [.int k_h, .int k_c]) (rest := []) ⟨hx, hb, hml, hown, hts⟩ (k_hopesBehind l G a_49 a_54 a_1 a_42 a_50 a_51 a_52 a_53 a_55 a_56 H.size k_h k_c k_g ⟨by omega, by omega⟩ ⟨by omega, by omega⟩ (i_8)) (cwV 2 hts gV_X7_108 rfl rfl rfl hv_X7_hopesBehind ⟨Nat.le_of_ble_eq_true rfl, Nat.le_of_ble_eq_true rfl⟩) (g5_preV hPc hK hDc hN hT hS hFc (ci := 7) (q0 := 0) rfl rfl) rfl rfl hl.1 rfl (lv_room (Nat.le_of_ble_eq_true rfl)) dX7_anyFits_42 ⟨Nat.le_of_ble_eq_true rfl, Nat.le_of_ble_eq_true rfl⟩) hS (fun q _ h => hFc q h) hFc (fun r u t H1 locs ht hvm hw hB hz1 hk1 hS => ?_)
        obtain ⟨hP1, hD1⟩ := hB
        rw [ht] at hP1
        obtain ⟨rfl, rfl⟩ := hw
        obtain ⟨hP, hD⟩ := va_join (wr := [(a_50, .inl (G.2 1, 24, .inr (.inl (fun _ => 0)))), (a_51, .inl (G.2 0, 1536, .inl (fun _ => 0)))]) (w1 := [(a_49, .inr (7, [.ref a_1, .ref a_42, .ref a_50, .ref a_51, .int 0, .ref a_52, .ref a_53, .ref a_54, .ref a_55, .ref a_56])), (a_54, .inl (G.2 0, 1536, .inl k_g))]) hP hD [0, 3] [1, 2] rfl rfl (by decide) (by decide) hk1 hFc hP1 hD1
        generalize H1 = H at hP hS ⊢
        have hP : va_P G.1 vwCl [(a_50, .inl (G.2 1, 24, .inr (.inl (fun _ => 0)))), (a_51, .inl (G.2 0, 1536, .inl (fun _ => 0))), (a_49, .inr (7, [.ref a_1, .ref a_42, .ref a_50, .ref a_51, .int 0, .ref a_52, .ref a_53, .ref a_54, .ref a_55, .ref a_56])), (a_54, .inl (G.2 0, 1536, .inl k_g))] H := hP
        have hD : va_D A [(a_50, .inl (G.2 1, 24, .inr (.inl (fun _ => 0)))), (a_51, .inl (G.2 0, 1536, .inl (fun _ => 0))), (a_49, .inr (7, [.ref a_1, .ref a_42, .ref a_50, .ref a_51, .int 0, .ref a_52, .ref a_53, .ref a_54, .ref a_55, .ref a_56])), (a_54, .inl (G.2 0, 1536, .inl k_g))] := hD
        refine lv_istore (lv' := [(4, .int 1), (3, .int ((k_h * 64) + k_c)), (2, .int k_c), (1, .int k_h), (0, .ref a_49)]) hx hb dX7_anyFits_45 hl (by decide) rfl (fun ls hl => ?_)
        refine lv_aload_n hx hb dX7_anyFits_47 rfl (lv_at hl 4 rfl) ?_
        refine va_get (D := G.1) (ci := 7) (v := .ref a_54) (C := RX7) (T := TX7) (N := 10) hx hb hts inG_X7 hown hK hP 2 rfl rfl 7 (by decide) (hts _ fl_X7_25) (fun _ h9 => h9) rfl dX7_anyFits_48 ?_
        refine lv_iload_n hx hb dX7_anyFits_51 rfl (lv_at hl 1 rfl) ?_
        refine lv_iload hx hb dX7_anyFits_52 (lv_at hl 0 rfl) ?_
        refine lv_aload_n hx hb dX7_anyFits_54 rfl (lv_at hl 4 rfl) ?_
        refine va_get (D := G.1) (ci := 7) (v := .ref a_51) (C := RX7) (T := TX7) (N := 10) hx hb hts inG_X7 hown hK hP 2 rfl rfl 3 (by decide) (hts _ fl_X7_15) (fun _ h9 => h9) rfl dX7_anyFits_55 ?_
        refine lv_iload_n hx hb dX7_anyFits_58 rfl (lv_at hl 1 rfl) ?_
        refine va_iald hx hb hK hP 1 0 rfl rfl (i := ((k_h * 64) + k_c)) (vp_in_iff.mpr ⟨by omega, by omega⟩) dX7_anyFits_59 ?_
        refine g5_ti (v := 0) rfl ?_
        have hPc := hP.sub (ws' := []) [] rfl
        have hDc := hD.sub (ws' := []) [] (by decide) rfl
        have hFc := va_free (wc := []) hD hS hA [] rfl
        refine va_calli (va_runS (As := [.int 1, .int 0]) (rest := [.int ((k_h * 64) + k_c), .ref a_54]) ⟨hx, hb, hml, hown, hts⟩ (kX7_masksBefore l G H.size) (va_cwS 2 hts gS_X7_111 rfl rfl rfl hs_X7_masksBefore ⟨Nat.le_of_ble_eq_true rfl, Nat.le_of_ble_eq_true rfl⟩) (g5_preS hPc hK hDc hN hT hS hFc) rfl rfl hl.1 rfl (lv_room (Nat.le_of_ble_eq_true rfl)) dX7_anyFits_60 ⟨Nat.le_of_ble_eq_true rfl, Nat.le_of_ble_eq_true rfl⟩) hS (fun q _ h => hFc q h) hFc (fun r u t H1 locs ht hvm hw hB hz1 hk1 hS => ?_)
        obtain ⟨hP1, hD1⟩ := hB
        rw [ht] at hP1
        obtain ⟨rfl, rfl⟩ := hw
        have hP := g5_same hP hk1
        generalize H1 = H at hP hS ⊢
        refine va_iast hx hb hK hP hD hS 3 0 rfl rfl (i := ((k_h * 64) + k_c)) (x := 1) (vp_in_iff.mpr ⟨by omega, by omega⟩) dX7_anyFits_63 (fun H locs hP hD hS => ?_)
        have hP : va_P G.1 vwCl [(a_50, .inl (G.2 1, 24, .inr (.inl (fun _ => 0)))), (a_51, .inl (G.2 0, 1536, .inl (fun _ => 0))), (a_49, .inr (7, [.ref a_1, .ref a_42, .ref a_50, .ref a_51, .int 0, .ref a_52, .ref a_53, .ref a_54, .ref a_55, .ref a_56])), (a_54, .inl (G.2 0, 1536, .inl (upd k_g ((k_h * 64) + k_c).toNatClampNeg 1)))] H := hP
        have hD : va_D A [(a_50, .inl (G.2 1, 24, .inr (.inl (fun _ => 0)))), (a_51, .inl (G.2 0, 1536, .inl (fun _ => 0))), (a_49, .inr (7, [.ref a_1, .ref a_42, .ref a_50, .ref a_51, .int 0, .ref a_52, .ref a_53, .ref a_54, .ref a_55, .ref a_56])), (a_54, .inl (G.2 0, 1536, .inl (upd k_g ((k_h * 64) + k_c).toNatClampNeg 1)))] := hD
        refine lv_iinc (v := (k_c + 1)) (lv' := [(2, .int (k_c + 1)), (4, .int 1), (3, .int ((k_h * 64) + k_c)), (1, .int k_h), (0, .ref a_49)]) hx hb dX7_anyFits_64 hl (k := 2) rfl rfl (by decide) rfl (fun ls hl => ?_)
        have t_16 : (k_c + 1).toInt = k_c.toInt + 1 := g5_iadd (a := k_c.toInt) (b := 1) rfl (by decide) (by omega) (by omega)
        refine lv_goto (tgt := 9) hx hb dX7_anyFits_67 (by decide) ?_
        exact ih_9_10 ((k_c + 1), (upd k_g ((k_h * 64) + k_c).toNatClampNeg 1)) ls H locs (show Int.toNat (64 - (k_c + 1).toInt) < Int.toNat (64 - k_c.toInt) by omega) ⟨lv_sub hl [0, 3, 4] rfl, hP.sub [2, 0, 1, 3] rfl, hD.sub [2, 0, 1, 3] (by decide) rfl, hS, ⟨by omega, by omega⟩, fun j h1 h2 => by have z := g5_clamp ((k_h * 64) + k_c); unfold upd; split; rfl; exact i_8 j (by omega) (by omega), fun j h1 h2 => by have z := g5_clamp ((k_h * 64) + k_c); unfold upd; split; rfl; exact i_9 j (by omega) (by omega)⟩
      ·
        exact absurd c_15 (by decide)
theorem dX7_holdIn_0 : decode cX7_holdIn 0 = .ok (.iconst 0, 1) := by decide +kernel
theorem dX7_holdIn_1 : decode cX7_holdIn 1 = .ok (.istore_n 2, 1) := by decide +kernel
theorem dX7_holdIn_2 : decode cX7_holdIn 2 = .ok (.iload_n 2, 1) := by decide +kernel
theorem dX7_holdIn_3 : decode cX7_holdIn 3 = .ok (.bipush 64, 2) := by decide +kernel
theorem dX7_holdIn_5 : decode cX7_holdIn 5 = .ok (.if_icmp .ge 37, 3) := by decide +kernel
theorem dX7_holdIn_8 : decode cX7_holdIn 8 = .ok (.aload_n 0, 1) := by decide +kernel
theorem dX7_holdIn_9 : decode cX7_holdIn 9 = .ok (.getfield 31, 3) := by decide +kernel
theorem dX7_holdIn_12 : decode cX7_holdIn 12 = .ok (.iload_n 2, 1) := by decide +kernel
theorem dX7_holdIn_13 : decode cX7_holdIn 13 = .ok (.aload_n 0, 1) := by decide +kernel
theorem dX7_holdIn_14 : decode cX7_holdIn 14 = .ok (.getfield 28, 3) := by decide +kernel
theorem dX7_holdIn_17 : decode cX7_holdIn 17 = .ok (.iload_n 2, 1) := by decide +kernel
theorem dX7_holdIn_18 : decode cX7_holdIn 18 = .ok (.iaload, 1) := by decide +kernel
theorem dX7_holdIn_19 : decode cX7_holdIn 19 = .ok (.aload_n 0, 1) := by decide +kernel
theorem dX7_holdIn_20 : decode cX7_holdIn 20 = .ok (.getfield 15, 3) := by decide +kernel
theorem dX7_holdIn_23 : decode cX7_holdIn 23 = .ok (.iload_n 1, 1) := by decide +kernel
theorem dX7_holdIn_24 : decode cX7_holdIn 24 = .ok (.iconst 1, 1) := by decide +kernel
theorem dX7_holdIn_25 : decode cX7_holdIn 25 = .ok (.isub, 1) := by decide +kernel
theorem dX7_holdIn_26 : decode cX7_holdIn 26 = .ok (.bipush 64, 2) := by decide +kernel
theorem dX7_holdIn_28 : decode cX7_holdIn 28 = .ok (.imul, 1) := by decide +kernel
theorem dX7_holdIn_29 : decode cX7_holdIn 29 = .ok (.iload_n 2, 1) := by decide +kernel
theorem dX7_holdIn_30 : decode cX7_holdIn 30 = .ok (.iadd, 1) := by decide +kernel
theorem dX7_holdIn_31 : decode cX7_holdIn 31 = .ok (.iaload, 1) := by decide +kernel
theorem dX7_holdIn_32 : decode cX7_holdIn 32 = .ok (.invokestatic 124, 3) := by decide +kernel
theorem dX7_holdIn_35 : decode cX7_holdIn 35 = .ok (.iastore, 1) := by decide +kernel
theorem dX7_holdIn_36 : decode cX7_holdIn 36 = .ok (.iinc 2 1, 3) := by decide +kernel
theorem dX7_holdIn_39 : decode cX7_holdIn 39 = .ok (.goto (-37), 3) := by decide +kernel
theorem dX7_holdIn_42 : decode cX7_holdIn 42 = .ok (.iconst 0, 1) := by decide +kernel
theorem dX7_holdIn_43 : decode cX7_holdIn 43 = .ok (.istore_n 2, 1) := by decide +kernel
theorem dX7_holdIn_44 : decode cX7_holdIn 44 = .ok (.iload_n 2, 1) := by decide +kernel
theorem dX7_holdIn_45 : decode cX7_holdIn 45 = .ok (.bipush 64, 2) := by decide +kernel
theorem dX7_holdIn_47 : decode cX7_holdIn 47 = .ok (.if_icmp .ge 74, 3) := by decide +kernel
theorem dX7_holdIn_50 : decode cX7_holdIn 50 = .ok (.iconst 0, 1) := by decide +kernel
theorem dX7_holdIn_51 : decode cX7_holdIn 51 = .ok (.istore_n 3, 1) := by decide +kernel
theorem dX7_holdIn_52 : decode cX7_holdIn 52 = .ok (.iconst 0, 1) := by decide +kernel
theorem dX7_holdIn_53 : decode cX7_holdIn 53 = .ok (.istore 4, 2) := by decide +kernel
theorem dX7_holdIn_55 : decode cX7_holdIn 55 = .ok (.iload 4, 2) := by decide +kernel
theorem dX7_holdIn_57 : decode cX7_holdIn 57 = .ok (.iconst 4, 1) := by decide +kernel
theorem dX7_holdIn_58 : decode cX7_holdIn 58 = .ok (.if_icmp .gt 50, 3) := by decide +kernel
theorem dX7_holdIn_61 : decode cX7_holdIn 61 = .ok (.aload_n 0, 1) := by decide +kernel
theorem dX7_holdIn_62 : decode cX7_holdIn 62 = .ok (.getfield 9, 3) := by decide +kernel
theorem dX7_holdIn_65 : decode cX7_holdIn 65 = .ok (.iload_n 1, 1) := by decide +kernel
theorem dX7_holdIn_66 : decode cX7_holdIn 66 = .ok (.laload, 1) := by decide +kernel
theorem dX7_holdIn_67 : decode cX7_holdIn 67 = .ok (.iload_n 2, 1) := by decide +kernel
theorem dX7_holdIn_68 : decode cX7_holdIn 68 = .ok (.invokestatic 98, 3) := by decide +kernel
theorem dX7_holdIn_71 : decode cX7_holdIn 71 = .ok (.ifCond .ne 37, 3) := by decide +kernel
theorem dX7_holdIn_74 : decode cX7_holdIn 74 = .ok (.iload_n 2, 1) := by decide +kernel
theorem dX7_holdIn_75 : decode cX7_holdIn 75 = .ok (.iload 4, 2) := by decide +kernel
theorem dX7_holdIn_77 : decode cX7_holdIn 77 = .ok (.invokestatic 105, 3) := by decide +kernel
theorem dX7_holdIn_80 : decode cX7_holdIn 80 = .ok (.istore 5, 2) := by decide +kernel
theorem dX7_holdIn_82 : decode cX7_holdIn 82 = .ok (.iload_n 3, 1) := by decide +kernel
theorem dX7_holdIn_83 : decode cX7_holdIn 83 = .ok (.iload 5, 2) := by decide +kernel
theorem dX7_holdIn_85 : decode cX7_holdIn 85 = .ok (.iconst (-1), 1) := by decide +kernel
theorem dX7_holdIn_86 : decode cX7_holdIn 86 = .ok (.if_icmp .ne 7, 3) := by decide +kernel
theorem dX7_holdIn_89 : decode cX7_holdIn 89 = .ok (.iconst 0, 1) := by decide +kernel
theorem dX7_holdIn_90 : decode cX7_holdIn 90 = .ok (.goto 10, 3) := by decide +kernel
theorem dX7_holdIn_93 : decode cX7_holdIn 93 = .ok (.aload_n 0, 1) := by decide +kernel
theorem dX7_holdIn_94 : decode cX7_holdIn 94 = .ok (.getfield 31, 3) := by decide +kernel
theorem dX7_holdIn_97 : decode cX7_holdIn 97 = .ok (.iload 5, 2) := by decide +kernel
theorem dX7_holdIn_99 : decode cX7_holdIn 99 = .ok (.iaload, 1) := by decide +kernel
theorem dX7_holdIn_100 : decode cX7_holdIn 100 = .ok (.ior, 1) := by decide +kernel
theorem dX7_holdIn_101 : decode cX7_holdIn 101 = .ok (.istore_n 3, 1) := by decide +kernel
theorem dX7_holdIn_102 : decode cX7_holdIn 102 = .ok (.iinc 4 1, 3) := by decide +kernel
theorem dX7_holdIn_105 : decode cX7_holdIn 105 = .ok (.goto (-50), 3) := by decide +kernel
theorem dX7_holdIn_108 : decode cX7_holdIn 108 = .ok (.aload_n 0, 1) := by decide +kernel
theorem dX7_holdIn_109 : decode cX7_holdIn 109 = .ok (.getfield 28, 3) := by decide +kernel
theorem dX7_holdIn_112 : decode cX7_holdIn 112 = .ok (.iload_n 2, 1) := by decide +kernel
theorem dX7_holdIn_113 : decode cX7_holdIn 113 = .ok (.iload_n 3, 1) := by decide +kernel
theorem dX7_holdIn_114 : decode cX7_holdIn 114 = .ok (.iastore, 1) := by decide +kernel
theorem dX7_holdIn_115 : decode cX7_holdIn 115 = .ok (.iinc 2 1, 3) := by decide +kernel
theorem dX7_holdIn_118 : decode cX7_holdIn 118 = .ok (.goto (-74), 3) := by decide +kernel
theorem dX7_holdIn_121 : decode cX7_holdIn 121 = .ok (.return_, 1) := by decide +kernel
theorem dX7_masksAfter_0 : decode cX7_masksAfter 0 = .ok (.iload_n 0, 1) := by decide +kernel
theorem dX7_masksAfter_1 : decode cX7_masksAfter 1 = .ok (.istore_n 2, 1) := by decide +kernel
theorem dX7_masksAfter_2 : decode cX7_masksAfter 2 = .ok (.iconst 0, 1) := by decide +kernel
theorem dX7_masksAfter_3 : decode cX7_masksAfter 3 = .ok (.istore_n 3, 1) := by decide +kernel
theorem dX7_masksAfter_4 : decode cX7_masksAfter 4 = .ok (.iload_n 3, 1) := by decide +kernel
theorem dX7_masksAfter_5 : decode cX7_masksAfter 5 = .ok (.getstatic 114, 3) := by decide +kernel
theorem dX7_masksAfter_8 : decode cX7_masksAfter 8 = .ok (.arraylength, 1) := by decide +kernel
theorem dX7_masksAfter_9 : decode cX7_masksAfter 9 = .ok (.if_icmp .ge 43, 3) := by decide +kernel
theorem dX7_masksAfter_12 : decode cX7_masksAfter 12 = .ok (.iload_n 1, 1) := by decide +kernel
theorem dX7_masksAfter_13 : decode cX7_masksAfter 13 = .ok (.ifCond .eq 39, 3) := by decide +kernel
theorem dX7_masksAfter_16 : decode cX7_masksAfter 16 = .ok (.iload_n 1, 1) := by decide +kernel
theorem dX7_masksAfter_17 : decode cX7_masksAfter 17 = .ok (.iload_n 3, 1) := by decide +kernel
theorem dX7_masksAfter_18 : decode cX7_masksAfter 18 = .ok (.ishr, 1) := by decide +kernel
theorem dX7_masksAfter_19 : decode cX7_masksAfter 19 = .ok (.iconst 1, 1) := by decide +kernel
theorem dX7_masksAfter_20 : decode cX7_masksAfter 20 = .ok (.iand, 1) := by decide +kernel
theorem dX7_masksAfter_21 : decode cX7_masksAfter 21 = .ok (.ifCond .eq 25, 3) := by decide +kernel
theorem dX7_masksAfter_24 : decode cX7_masksAfter 24 = .ok (.iload_n 2, 1) := by decide +kernel
theorem dX7_masksAfter_25 : decode cX7_masksAfter 25 = .ok (.getstatic 114, 3) := by decide +kernel
theorem dX7_masksAfter_28 : decode cX7_masksAfter 28 = .ok (.iload_n 3, 1) := by decide +kernel
theorem dX7_masksAfter_29 : decode cX7_masksAfter 29 = .ok (.iaload, 1) := by decide +kernel
theorem dX7_masksAfter_30 : decode cX7_masksAfter 30 = .ok (.iand, 1) := by decide +kernel
theorem dX7_masksAfter_31 : decode cX7_masksAfter 31 = .ok (.iload_n 2, 1) := by decide +kernel
theorem dX7_masksAfter_32 : decode cX7_masksAfter 32 = .ok (.getstatic 114, 3) := by decide +kernel
theorem dX7_masksAfter_35 : decode cX7_masksAfter 35 = .ok (.iload_n 3, 1) := by decide +kernel
theorem dX7_masksAfter_36 : decode cX7_masksAfter 36 = .ok (.iaload, 1) := by decide +kernel
theorem dX7_masksAfter_37 : decode cX7_masksAfter 37 = .ok (.iconst (-1), 1) := by decide +kernel
theorem dX7_masksAfter_38 : decode cX7_masksAfter 38 = .ok (.ixor, 1) := by decide +kernel
theorem dX7_masksAfter_39 : decode cX7_masksAfter 39 = .ok (.iand, 1) := by decide +kernel
theorem dX7_masksAfter_40 : decode cX7_masksAfter 40 = .ok (.iconst 1, 1) := by decide +kernel
theorem dX7_masksAfter_41 : decode cX7_masksAfter 41 = .ok (.iload_n 3, 1) := by decide +kernel
theorem dX7_masksAfter_42 : decode cX7_masksAfter 42 = .ok (.ishl, 1) := by decide +kernel
theorem dX7_masksAfter_43 : decode cX7_masksAfter 43 = .ok (.ishl, 1) := by decide +kernel
theorem dX7_masksAfter_44 : decode cX7_masksAfter 44 = .ok (.ior, 1) := by decide +kernel
theorem dX7_masksAfter_45 : decode cX7_masksAfter 45 = .ok (.istore_n 2, 1) := by decide +kernel
theorem dX7_masksAfter_46 : decode cX7_masksAfter 46 = .ok (.iinc 3 1, 3) := by decide +kernel
theorem dX7_masksAfter_49 : decode cX7_masksAfter 49 = .ok (.goto (-45), 3) := by decide +kernel
theorem dX7_masksAfter_52 : decode cX7_masksAfter 52 = .ok (.iload_n 2, 1) := by decide +kernel
theorem dX7_masksAfter_53 : decode cX7_masksAfter 53 = .ok (.ireturn, 1) := by decide +kernel
set_option maxHeartbeats 4000000 in
set_option maxRecDepth 100000 in
theorem kX7_masksAfter (l : Launch) (G : g5_G) (sz : Nat) : Met l yX7_masksAfter (wsG yX7_masksAfter cX7_masksAfter 4 (some .int)) ({ frames := 0, cells := 0, slots := 0, locals := 0 }) (va_Pc [.int 1, .int 0] (g5_P G [] sz)) (va_Qi (fun (r : Int32) (u : va_W) => ((r = 1) ∧ (u = []))) (g5_B G (va_A [] sz)) (va_A [] sz)) 0 0 (va_A [] sz) := by
  refine Met.ofW (cc := cX7_masksAfter) (maxL := 4) (ret := (some .int)) (by decide) rfl ?_
  intro p e s m args below meth c s₁ B hml hv
  obtain ⟨rfl, hsz, hP, hK, hD0, hN, hT⟩ := hv
  have hx := B.exec
  have hb := B.bytes
  have hr := B.returns
  have hts : ∀ w ∈ tblG, w.before _ s = true := fun w h => atoms_spec (ws := (wsG yX7_masksAfter cX7_masksAfter 4 (some .int))) B.pre w (List.mem_cons_of_mem _ h)
  have hown : s.vm.findClass RX7 = some m.cls := findClass_of_methodNamed B.named
  have hlocks := B.notSynchronized
  subst hsz
  have hD := hD0.self (sz := s.heap.size)
  generalize hAe : va_A [] s.heap.size = A at hD hT ⊢
  have hA : ∀ q : Nat, s.heap.size ≤ q → A q := fun q h => by rw [← hAe]; exact Or.inr h
  have hS : va_S A s.heap s.heap [] := va_S.rf
  have hP : va_P G.1 vwCl [] s.heap := hP
  have hl := lv_entry ([.int 1, .int 0]) (n := 4) (Nat.le_of_ble_eq_true rfl)
  rw [lg_entry_eq]
  generalize (lg_sl ([.int 1, .int 0]) ++ List.replicate (4 - (lg_sl ([.int 1, .int 0])).length) Slot.unset).toArray = ls at hl ⊢
  have hl : lv_has ls 4 [(0, .int 1), (1, .int 0)] := hl
  refine lv_iload_n hx hb dX7_masksAfter_0 rfl (lv_at hl 0 rfl) ?_
  refine lv_istore_n (lv' := [(2, .int 1), (0, .int 1), (1, .int 0)]) hx hb dX7_masksAfter_1 rfl hl (by decide) rfl (fun ls hl => ?_)
  refine lv_iconst (v := 0) hx hb dX7_masksAfter_2 (by decide) ?_
  refine lv_istore_n (lv' := [(3, .int 0), (2, .int 1), (0, .int 1), (1, .int 0)]) hx hb dX7_masksAfter_3 rfl hl (by decide) rfl (fun ls hl => ?_)
  refine lv_iload_n hx hb dX7_masksAfter_4 rfl (lv_at hl 0 rfl) ?_
  obtain ⟨tH, tL, hZH, hTH, hZL, hTL⟩ := id hT
  refine va_getsN hx hb hZH hS hown (hN.1 _ g5_nw_X7_114) (fun _ h9 => h9) dX7_masksAfter_5 ?_
  refine va_tlen hx hb hTH hS (v := 5) (by decide) dX7_masksAfter_8 ?_
  refine lv_icmp_ge (tgt := 52) hx hb dX7_masksAfter_9 (by decide) (fun c_1 => ?_) (fun c_1 => ?_)
  ·
    exact absurd c_1 (by decide)
  ·
    refine lv_iload_n hx hb dX7_masksAfter_12 rfl (lv_at hl 3 rfl) ?_
    refine lv_if_eq (tgt := 52) hx hb dX7_masksAfter_13 (by decide) (fun c_2 => ?_) (fun c_2 => ?_)
    ·
      refine lv_iload_n hx hb dX7_masksAfter_52 rfl (lv_at hl 1 rfl) ?_
      exact W.iret (v := 1) hx hb hr (fun t ht hW => ⟨⟨1, [], rfl, ⟨rfl, rfl⟩, by rw [ht]; exact hP, hD⟩, hS.F ht⟩) hS.2.2 dX7_masksAfter_53
    ·
      exact absurd c_2 (by decide)
theorem ml_X7_124 : Cond.methodLink RX7 124 yX7_masksAfter ∈ tblG := tg 1013 (by decide +kernel) (by decide +kernel)
theorem st_X7_masksAfter : Cond.static yX7_masksAfter ∈ tblG := tg 1014 (by decide +kernel) (by decide +kernel)
theorem cd_X7_masksAfter : Cond.code yX7_masksAfter cX7_masksAfter 4 (some .int) ∈ tblG := tg 1015 (by decide +kernel) (by decide +kernel)
theorem gW_X7_masksAfter : GoodIn tblG (wsG yX7_masksAfter cX7_masksAfter 4 (some .int)) := tgi cd_X7_masksAfter
theorem gS_X7_124 : GoodIn tblG (va_wsS RX7 124 yX7_masksAfter (wsG yX7_masksAfter cX7_masksAfter 4 (some .int))) := tgS ml_X7_124 st_X7_masksAfter ini_X7 gW_X7_masksAfter
theorem hs_X7_masksAfter : yX7_masksAfter.cls ≠ "java/lang/invoke/MethodHandle" ∧ yX7_masksAfter.cls ≠ "java/lang/invoke/VarHandle" ∧ (parseMethodDescriptor yX7_masksAfter.desc).map (fun d => d.parameters.length) = some 2 := by decide +kernel
set_option maxHeartbeats 4000000 in
set_option maxRecDepth 100000 in
theorem k_holdIn (l : Launch) (G : g5_G) (a_49 a_50 a_51 a_55 a_56 a_1 a_42 a_52 a_53 a_54 : Nat) (sz : Nat) (p_h : Int32) (f_e : Nat → Int32) (f_l : Nat → Int32) (h_p_h : 1 ≤ p_h.toInt ∧ p_h.toInt ≤ 23) (e_h : ∀ j : Nat, j < 64 → f_e j = 1) : Met l yX7_holdIn (wsG yX7_holdIn cX7_holdIn 6 none) ({ frames := 1, cells := 0, slots := 0, locals := 23 }) (va_Pc [.ref a_49, .int p_h] (g5_P G [(a_49, .inr (7, [.ref a_1, .ref a_42, .ref a_50, .ref a_51, .int 0, .ref a_52, .ref a_53, .ref a_54, .ref a_55, .ref a_56])), (a_50, .inl (G.2 1, 24, .inr (.inl (fun _ => 0)))), (a_51, .inl (G.2 0, 1536, .inl (fun _ => 0))), (a_55, .inl (G.2 0, 64, .inl f_e)), (a_56, .inl (G.2 0, 64, .inl f_l))] sz)) (va_Qv (fun (u : va_W) => (∃ (o_e : Nat → Int32) (o_l : Nat → Int32), (∀ j : Nat, j < 64 → o_e j = 1) ∧ (u = [(a_49, .inr (7, [.ref a_1, .ref a_42, .ref a_50, .ref a_51, .int 0, .ref a_52, .ref a_53, .ref a_54, .ref a_55, .ref a_56])), (a_50, .inl (G.2 1, 24, .inr (.inl (fun _ => 0)))), (a_51, .inl (G.2 0, 1536, .inl (fun _ => 0))), (a_55, .inl (G.2 0, 64, .inl o_e)), (a_56, .inl (G.2 0, 64, .inl o_l))]))) (g5_B G (va_A [(a_49, .inr (7, [.ref a_1, .ref a_42, .ref a_50, .ref a_51, .int 0, .ref a_52, .ref a_53, .ref a_54, .ref a_55, .ref a_56])), (a_50, .inl (G.2 1, 24, .inr (.inl (fun _ => 0)))), (a_51, .inl (G.2 0, 1536, .inl (fun _ => 0))), (a_55, .inl (G.2 0, 64, .inl f_e)), (a_56, .inl (G.2 0, 64, .inl f_l))] sz)) (va_A [(a_49, .inr (7, [.ref a_1, .ref a_42, .ref a_50, .ref a_51, .int 0, .ref a_52, .ref a_53, .ref a_54, .ref a_55, .ref a_56])), (a_50, .inl (G.2 1, 24, .inr (.inl (fun _ => 0)))), (a_51, .inl (G.2 0, 1536, .inl (fun _ => 0))), (a_55, .inl (G.2 0, 64, .inl f_e)), (a_56, .inl (G.2 0, 64, .inl f_l))] sz)) 0 0 (va_A [(a_49, .inr (7, [.ref a_1, .ref a_42, .ref a_50, .ref a_51, .int 0, .ref a_52, .ref a_53, .ref a_54, .ref a_55, .ref a_56])), (a_50, .inl (G.2 1, 24, .inr (.inl (fun _ => 0)))), (a_51, .inl (G.2 0, 1536, .inl (fun _ => 0))), (a_55, .inl (G.2 0, 64, .inl f_e)), (a_56, .inl (G.2 0, 64, .inl f_l))] sz) := by
  refine Met.ofW (cc := cX7_holdIn) (maxL := 6) (ret := none) (by decide) rfl ?_
  intro p e s m args below meth c s₁ B hml hv
  obtain ⟨rfl, hsz, hP, hK, hD0, hN, hT⟩ := hv
  have hx := B.exec
  have hb := B.bytes
  have hr := B.returns
  have hts : ∀ w ∈ tblG, w.before _ s = true := fun w h => atoms_spec (ws := (wsG yX7_holdIn cX7_holdIn 6 none)) B.pre w (List.mem_cons_of_mem _ h)
  have hown : s.vm.findClass RX7 = some m.cls := findClass_of_methodNamed B.named
  have hlocks := B.notSynchronized
  subst hsz
  have hD := hD0.self (sz := s.heap.size)
  generalize hAe : va_A [(a_49, .inr (7, [.ref a_1, .ref a_42, .ref a_50, .ref a_51, .int 0, .ref a_52, .ref a_53, .ref a_54, .ref a_55, .ref a_56])), (a_50, .inl (G.2 1, 24, .inr (.inl (fun _ => 0)))), (a_51, .inl (G.2 0, 1536, .inl (fun _ => 0))), (a_55, .inl (G.2 0, 64, .inl f_e)), (a_56, .inl (G.2 0, 64, .inl f_l))] s.heap.size = A at hD hT ⊢
  have hA : ∀ q : Nat, s.heap.size ≤ q → A q := fun q h => by rw [← hAe]; exact Or.inr h
  have hS : va_S A s.heap s.heap [] := va_S.rf
  have hP : va_P G.1 vwCl [(a_49, .inr (7, [.ref a_1, .ref a_42, .ref a_50, .ref a_51, .int 0, .ref a_52, .ref a_53, .ref a_54, .ref a_55, .ref a_56])), (a_50, .inl (G.2 1, 24, .inr (.inl (fun _ => 0)))), (a_51, .inl (G.2 0, 1536, .inl (fun _ => 0))), (a_55, .inl (G.2 0, 64, .inl f_e)), (a_56, .inl (G.2 0, 64, .inl f_l))] s.heap := hP
  have hl := lv_entry ([.ref a_49, .int p_h]) (n := 6) (Nat.le_of_ble_eq_true rfl)
  rw [lg_entry_eq]
  generalize (lg_sl ([.ref a_49, .int p_h]) ++ List.replicate (6 - (lg_sl ([.ref a_49, .int p_h])).length) Slot.unset).toArray = ls at hl ⊢
  have hl : lv_has ls 6 [(0, .ref a_49), (1, .int p_h)] := hl
  refine lv_iconst (v := 0) hx hb dX7_holdIn_0 (by decide) ?_
  refine lv_istore_n (lv' := [(2, .int 0), (0, .ref a_49), (1, .int p_h)]) hx hb dX7_holdIn_1 rfl hl (by decide) rfl (fun ls hl => ?_)
  refine g5_loop (α := (Int32) × (Nat → Int32)) (fun (q : (Int32) × (Nat → Int32)) (ls : Array Slot) (H : Heap) (locs : List Loc) => match q with | (k_i, k_f) => lv_has ls 6 [(2, .int k_i), (0, .ref a_49), (1, .int p_h)] ∧ va_P G.1 vwCl [(a_49, .inr (7, [.ref a_1, .ref a_42, .ref a_50, .ref a_51, .int 0, .ref a_52, .ref a_53, .ref a_54, .ref a_55, .ref a_56])), (a_50, .inl (G.2 1, 24, .inr (.inl (fun _ => 0)))), (a_51, .inl (G.2 0, 1536, .inl (fun _ => 0))), (a_55, .inl (G.2 0, 64, .inl f_e)), (a_56, .inl (G.2 0, 64, .inl k_f))] H ∧ va_D A [(a_49, .inr (7, [.ref a_1, .ref a_42, .ref a_50, .ref a_51, .int 0, .ref a_52, .ref a_53, .ref a_54, .ref a_55, .ref a_56])), (a_50, .inl (G.2 1, 24, .inr (.inl (fun _ => 0)))), (a_51, .inl (G.2 0, 1536, .inl (fun _ => 0))), (a_55, .inl (G.2 0, 64, .inl f_e)), (a_56, .inl (G.2 0, 64, .inl k_f))] ∧ va_S A s.heap H locs ∧ (0 ≤ k_i.toInt ∧ k_i.toInt ≤ 64) ∧ (∀ j : Nat, (j : Int) < k_i.toInt → k_f j = (fun _ => 1) j)) (fun (q : (Int32) × (Nat → Int32)) => match q with | (k_i, k_f) => Int.toNat (64 - k_i.toInt)) (0, f_l) ⟨lv_sub hl [0, 1, 2] rfl, hP, hD, hS, ⟨by decide, by decide⟩, fun j h => absurd h (by have z : (0 : Int32).toInt = 0 := (by decide); omega)⟩ ?_
  rintro ⟨k_i, k_f⟩ ls H locs ⟨hl, hP, hD, hS, i_1, i_2⟩ ih_2_3
  have hl : lv_has ls 6 [(2, .int k_i), (0, .ref a_49), (1, .int p_h)] := hl
  have i_1 : 0 ≤ k_i.toInt ∧ k_i.toInt ≤ 64 := i_1
  have i_2 : ∀ j : Nat, (j : Int) < k_i.toInt → k_f j = (fun _ => 1) j := i_2
  have hP : va_P G.1 vwCl [(a_49, .inr (7, [.ref a_1, .ref a_42, .ref a_50, .ref a_51, .int 0, .ref a_52, .ref a_53, .ref a_54, .ref a_55, .ref a_56])), (a_50, .inl (G.2 1, 24, .inr (.inl (fun _ => 0)))), (a_51, .inl (G.2 0, 1536, .inl (fun _ => 0))), (a_55, .inl (G.2 0, 64, .inl f_e)), (a_56, .inl (G.2 0, 64, .inl k_f))] H := hP
  have hD : va_D A [(a_49, .inr (7, [.ref a_1, .ref a_42, .ref a_50, .ref a_51, .int 0, .ref a_52, .ref a_53, .ref a_54, .ref a_55, .ref a_56])), (a_50, .inl (G.2 1, 24, .inr (.inl (fun _ => 0)))), (a_51, .inl (G.2 0, 1536, .inl (fun _ => 0))), (a_55, .inl (G.2 0, 64, .inl f_e)), (a_56, .inl (G.2 0, 64, .inl k_f))] := hD
  refine lv_iload_n hx hb dX7_holdIn_2 rfl (lv_at hl 0 rfl) ?_
  refine lv_bipush (v := 64) hx hb dX7_holdIn_3 (by decide) ?_
  refine lv_icmp_ge (tgt := 42) hx hb dX7_holdIn_5 (by decide) (fun c_4 => ?_) (fun c_4 => ?_)
  ·
    have i_4 : k_i.toInt ≥ 64 := by have z := g5_ge (a := k_i.toInt) (b := 64) (by rfl) (by decide) c_4; omega
    have hl1 : ∀ j : Nat, j < 64 → k_f j = 1 := fun j h => i_2 j (by omega)
    refine lv_iconst (v := 0) hx hb dX7_holdIn_42 (by decide) ?_
    refine lv_istore_n (lv' := [(2, .int 0), (0, .ref a_49), (1, .int p_h)]) hx hb dX7_holdIn_43 rfl hl (by decide) rfl (fun ls hl => ?_)
    refine g5_loop (α := (Int32) × (Nat → Int32)) (fun (q : (Int32) × (Nat → Int32)) (ls : Array Slot) (H : Heap) (locs : List Loc) => match q with | (k_c, k_e) => lv_has ls 6 [(2, .int k_c), (0, .ref a_49), (1, .int p_h)] ∧ va_P G.1 vwCl [(a_49, .inr (7, [.ref a_1, .ref a_42, .ref a_50, .ref a_51, .int 0, .ref a_52, .ref a_53, .ref a_54, .ref a_55, .ref a_56])), (a_50, .inl (G.2 1, 24, .inr (.inl (fun _ => 0)))), (a_51, .inl (G.2 0, 1536, .inl (fun _ => 0))), (a_55, .inl (G.2 0, 64, .inl k_e)), (a_56, .inl (G.2 0, 64, .inl k_f))] H ∧ va_D A [(a_49, .inr (7, [.ref a_1, .ref a_42, .ref a_50, .ref a_51, .int 0, .ref a_52, .ref a_53, .ref a_54, .ref a_55, .ref a_56])), (a_50, .inl (G.2 1, 24, .inr (.inl (fun _ => 0)))), (a_51, .inl (G.2 0, 1536, .inl (fun _ => 0))), (a_55, .inl (G.2 0, 64, .inl k_e)), (a_56, .inl (G.2 0, 64, .inl k_f))] ∧ va_S A s.heap H locs ∧ (0 ≤ k_c.toInt ∧ k_c.toInt ≤ 64) ∧ (∀ j : Nat, (j : Int) < k_c.toInt → k_e j = (fun _ => 1) j)) (fun (q : (Int32) × (Nat → Int32)) => match q with | (k_c, k_e) => Int.toNat (64 - k_c.toInt)) (0, f_e) ⟨lv_sub hl [0, 1, 2] rfl, hP, hD, hS, ⟨by decide, by decide⟩, fun j h => absurd h (by have z : (0 : Int32).toInt = 0 := (by decide); omega)⟩ ?_
    rintro ⟨k_c, k_e⟩ ls H locs ⟨hl, hP, hD, hS, i_5, i_6⟩ ih_44_7
    have hl : lv_has ls 6 [(2, .int k_c), (0, .ref a_49), (1, .int p_h)] := hl
    have i_5 : 0 ≤ k_c.toInt ∧ k_c.toInt ≤ 64 := i_5
    have i_6 : ∀ j : Nat, (j : Int) < k_c.toInt → k_e j = (fun _ => 1) j := i_6
    have hP : va_P G.1 vwCl [(a_49, .inr (7, [.ref a_1, .ref a_42, .ref a_50, .ref a_51, .int 0, .ref a_52, .ref a_53, .ref a_54, .ref a_55, .ref a_56])), (a_50, .inl (G.2 1, 24, .inr (.inl (fun _ => 0)))), (a_51, .inl (G.2 0, 1536, .inl (fun _ => 0))), (a_55, .inl (G.2 0, 64, .inl k_e)), (a_56, .inl (G.2 0, 64, .inl k_f))] H := hP
    have hD : va_D A [(a_49, .inr (7, [.ref a_1, .ref a_42, .ref a_50, .ref a_51, .int 0, .ref a_52, .ref a_53, .ref a_54, .ref a_55, .ref a_56])), (a_50, .inl (G.2 1, 24, .inr (.inl (fun _ => 0)))), (a_51, .inl (G.2 0, 1536, .inl (fun _ => 0))), (a_55, .inl (G.2 0, 64, .inl k_e)), (a_56, .inl (G.2 0, 64, .inl k_f))] := hD
    refine lv_iload_n hx hb dX7_holdIn_44 rfl (lv_at hl 0 rfl) ?_
    refine lv_bipush (v := 64) hx hb dX7_holdIn_45 (by decide) ?_
    refine lv_icmp_ge (tgt := 121) hx hb dX7_holdIn_47 (by decide) (fun c_8 => ?_) (fun c_8 => ?_)
    ·
      have i_8 : k_c.toInt ≥ 64 := by have z := g5_ge (a := k_c.toInt) (b := 64) (by rfl) (by decide) c_8; omega
      exact W.vret hx hb hr (fun t ht hW => ⟨⟨[(a_49, .inr (7, [.ref a_1, .ref a_42, .ref a_50, .ref a_51, .int 0, .ref a_52, .ref a_53, .ref a_54, .ref a_55, .ref a_56])), (a_50, .inl (G.2 1, 24, .inr (.inl (fun _ => 0)))), (a_51, .inl (G.2 0, 1536, .inl (fun _ => 0))), (a_55, .inl (G.2 0, 64, .inl k_e)), (a_56, .inl (G.2 0, 64, .inl k_f))], rfl, ⟨k_e, k_f, fun j h => i_6 j (by omega), rfl⟩, by rw [ht]; exact hP.sub [0, 1, 2, 3, 4] rfl, hD.sub [0, 1, 2, 3, 4] (by decide) rfl⟩, hS.F ht⟩) hS.2.2 dX7_holdIn_121
    ·
      have i_8 : k_c.toInt < 64 := by have z := g5_geN (a := k_c.toInt) (b := 64) (by rfl) (by decide) c_8; omega
      refine lv_iconst (v := 0) hx hb dX7_holdIn_50 (by decide) ?_
      refine lv_istore_n (lv' := [(3, .int 0), (2, .int k_c), (0, .ref a_49), (1, .int p_h)]) hx hb dX7_holdIn_51 rfl hl (by decide) rfl (fun ls hl => ?_)
      refine lv_iconst (v := 0) hx hb dX7_holdIn_52 (by decide) ?_
      refine lv_istore (lv' := [(4, .int 0), (3, .int 0), (2, .int k_c), (0, .ref a_49), (1, .int p_h)]) hx hb dX7_holdIn_53 hl (by decide) rfl (fun ls hl => ?_)
      refine g5_loop (α := (Int32) × (Int32)) (fun (q : (Int32) × (Int32)) (ls : Array Slot) (H : Heap) (locs : List Loc) => match q with | (k_w, k_s) => lv_has ls 6 [(3, .int k_s), (4, .int k_w), (2, .int k_c), (0, .ref a_49), (1, .int p_h)] ∧ va_P G.1 vwCl [(a_49, .inr (7, [.ref a_1, .ref a_42, .ref a_50, .ref a_51, .int 0, .ref a_52, .ref a_53, .ref a_54, .ref a_55, .ref a_56])), (a_50, .inl (G.2 1, 24, .inr (.inl (fun _ => 0)))), (a_51, .inl (G.2 0, 1536, .inl (fun _ => 0))), (a_55, .inl (G.2 0, 64, .inl k_e)), (a_56, .inl (G.2 0, 64, .inl k_f))] H ∧ va_D A [(a_49, .inr (7, [.ref a_1, .ref a_42, .ref a_50, .ref a_51, .int 0, .ref a_52, .ref a_53, .ref a_54, .ref a_55, .ref a_56])), (a_50, .inl (G.2 1, 24, .inr (.inl (fun _ => 0)))), (a_51, .inl (G.2 0, 1536, .inl (fun _ => 0))), (a_55, .inl (G.2 0, 64, .inl k_e)), (a_56, .inl (G.2 0, 64, .inl k_f))] ∧ va_S A s.heap H locs ∧ (0 ≤ k_w.toInt ∧ k_w.toInt ≤ 5) ∧ (0 ≤ k_s.toInt ∧ k_s.toInt ≤ 1) ∧ (k_w.toInt = 5 → k_s.toInt = 1)) (fun (q : (Int32) × (Int32)) => match q with | (k_w, k_s) => Int.toNat (5 - k_w.toInt)) (0, 0) ⟨lv_sub hl [1, 0, 2, 3, 4] rfl, hP, hD, hS, ⟨by decide, by decide⟩, ⟨by decide, by decide⟩, fun h => absurd h (by decide)⟩ ?_
      rintro ⟨k_w, k_s⟩ ls H locs ⟨hl, hP, hD, hS, i_9, i_10, i_11⟩ ih_55_12
      have hl : lv_has ls 6 [(3, .int k_s), (4, .int k_w), (2, .int k_c), (0, .ref a_49), (1, .int p_h)] := hl
      have i_9 : 0 ≤ k_w.toInt ∧ k_w.toInt ≤ 5 := i_9
      have i_10 : 0 ≤ k_s.toInt ∧ k_s.toInt ≤ 1 := i_10
      have i_11 : k_w.toInt = 5 → k_s.toInt = 1 := i_11
      have hP : va_P G.1 vwCl [(a_49, .inr (7, [.ref a_1, .ref a_42, .ref a_50, .ref a_51, .int 0, .ref a_52, .ref a_53, .ref a_54, .ref a_55, .ref a_56])), (a_50, .inl (G.2 1, 24, .inr (.inl (fun _ => 0)))), (a_51, .inl (G.2 0, 1536, .inl (fun _ => 0))), (a_55, .inl (G.2 0, 64, .inl k_e)), (a_56, .inl (G.2 0, 64, .inl k_f))] H := hP
      have hD : va_D A [(a_49, .inr (7, [.ref a_1, .ref a_42, .ref a_50, .ref a_51, .int 0, .ref a_52, .ref a_53, .ref a_54, .ref a_55, .ref a_56])), (a_50, .inl (G.2 1, 24, .inr (.inl (fun _ => 0)))), (a_51, .inl (G.2 0, 1536, .inl (fun _ => 0))), (a_55, .inl (G.2 0, 64, .inl k_e)), (a_56, .inl (G.2 0, 64, .inl k_f))] := hD
      refine lv_iload hx hb dX7_holdIn_55 (lv_at hl 1 rfl) ?_
      refine lv_iconst (v := 4) hx hb dX7_holdIn_57 (by decide) ?_
      refine lv_icmp_gt (tgt := 108) hx hb dX7_holdIn_58 (by decide) (fun c_13 => ?_) (fun c_13 => ?_)
      ·
        have i_13 : k_w.toInt > 4 := by have z := g5_gt (a := k_w.toInt) (b := 4) (by rfl) (by decide) c_13; omega
        refine lv_aload_n hx hb dX7_holdIn_108 rfl (lv_at hl 3 rfl) ?_
        refine va_get (D := G.1) (ci := 7) (v := .ref a_55) (C := RX7) (T := TX7) (N := 10) hx hb hts inG_X7 hown hK hP 0 rfl rfl 8 (by decide) (hts _ fl_X7_28) (fun _ h9 => h9) rfl dX7_holdIn_109 ?_
        refine lv_iload_n hx hb dX7_holdIn_112 rfl (lv_at hl 2 rfl) ?_
        refine lv_iload_n hx hb dX7_holdIn_113 rfl (lv_at hl 0 rfl) ?_
        refine g5_ti (v := 1) (g5_toc (n := 1) (by decide) (i_11 (by omega))) ?_
        refine va_iast hx hb hK hP hD hS 3 0 rfl rfl (i := k_c) (x := 1) (vp_in_iff.mpr ⟨by omega, by omega⟩) dX7_holdIn_114 (fun H locs hP hD hS => ?_)
        have hP : va_P G.1 vwCl [(a_49, .inr (7, [.ref a_1, .ref a_42, .ref a_50, .ref a_51, .int 0, .ref a_52, .ref a_53, .ref a_54, .ref a_55, .ref a_56])), (a_50, .inl (G.2 1, 24, .inr (.inl (fun _ => 0)))), (a_51, .inl (G.2 0, 1536, .inl (fun _ => 0))), (a_55, .inl (G.2 0, 64, .inl (upd k_e k_c.toNatClampNeg 1))), (a_56, .inl (G.2 0, 64, .inl k_f))] H := hP
        have hD : va_D A [(a_49, .inr (7, [.ref a_1, .ref a_42, .ref a_50, .ref a_51, .int 0, .ref a_52, .ref a_53, .ref a_54, .ref a_55, .ref a_56])), (a_50, .inl (G.2 1, 24, .inr (.inl (fun _ => 0)))), (a_51, .inl (G.2 0, 1536, .inl (fun _ => 0))), (a_55, .inl (G.2 0, 64, .inl (upd k_e k_c.toNatClampNeg 1))), (a_56, .inl (G.2 0, 64, .inl k_f))] := hD
        refine lv_iinc (v := (k_c + 1)) (lv' := [(2, .int (k_c + 1)), (3, .int k_s), (4, .int k_w), (0, .ref a_49), (1, .int p_h)]) hx hb dX7_holdIn_115 hl (k := 2) rfl rfl (by decide) rfl (fun ls hl => ?_)
        have t_14 : (k_c + 1).toInt = k_c.toInt + 1 := g5_iadd (a := k_c.toInt) (b := 1) rfl (by decide) (by omega) (by omega)
        refine lv_goto (tgt := 44) hx hb dX7_holdIn_118 (by decide) ?_
        exact ih_44_7 ((k_c + 1), (upd k_e k_c.toNatClampNeg 1)) ls H locs (show Int.toNat (64 - (k_c + 1).toInt) < Int.toNat (64 - k_c.toInt) by omega) ⟨lv_sub hl [0, 3, 4] rfl, hP, hD, hS, ⟨by omega, by omega⟩, g5_fillI i_6 (by omega) (by omega) rfl⟩
      ·
        have i_13 : k_w.toInt ≤ 4 := by have z := g5_gtN (a := k_w.toInt) (b := 4) (by rfl) (by decide) c_13; omega
        refine lv_aload_n hx hb dX7_holdIn_61 rfl (lv_at hl 3 rfl) ?_
        refine va_get (D := G.1) (ci := 7) (v := .ref a_50) (C := RX7) (T := TX7) (N := 10) hx hb hts inG_X7 hown hK hP 0 rfl rfl 2 (by decide) (hts _ fl_X7_9) (fun _ h9 => h9) rfl dX7_holdIn_62 ?_
        refine lv_iload_n hx hb dX7_holdIn_65 rfl (lv_at hl 4 rfl) ?_
        refine va_lald hx hb hK hP 1 1 rfl rfl (i := p_h) (vp_in_iff.mpr ⟨by omega, by omega⟩) dX7_holdIn_66 ?_
        refine g5_tl (v := 0) rfl ?_
        refine lv_iload_n hx hb dX7_holdIn_67 rfl (lv_at hl 2 rfl) ?_
        have hPc := hP.sub (ws' := []) [] rfl
        have hDc := hD.sub (ws' := []) [] (by decide) rfl
        have hFc := va_free (wc := []) hD hS hA [] rfl
        refine va_calli (va_runSN (As := [.long 0, .int k_c]) (rest := []) ⟨hx, hb, hml, hown, hts⟩ (kX11_isOn_5 l G H.size k_c ⟨by omega, by omega⟩) ⟨va_cnB 2 hts gW_X11_isOn rfl rfl rfl (hN.1 _ g5_nw_X7_98) (hts _ ini_X11) hs_X11_isOn ⟨Nat.le_of_ble_eq_true rfl, Nat.le_of_ble_eq_true rfl⟩, hts _ st_X11_isOn, trivial⟩ (g5_preS hPc hK hDc hN hT hS hFc) rfl rfl hl.1 rfl (lv_room (Nat.le_of_ble_eq_true rfl)) dX7_holdIn_68 ⟨Nat.le_of_ble_eq_true rfl, Nat.le_of_ble_eq_true rfl⟩) hS (fun q _ h => hFc q h) hFc (fun r u t H1 locs ht hvm hw hB hz1 hk1 hS => ?_)
        obtain ⟨hP1, hD1⟩ := hB
        rw [ht] at hP1
        obtain ⟨rfl, rfl⟩ := hw
        have hP := g5_same hP hk1
        generalize H1 = H at hP hS ⊢
        refine lv_if_ne (tgt := 108) hx hb dX7_holdIn_71 (by decide) (fun c_15 => ?_) (fun c_15 => ?_)
        ·
          exact absurd c_15 (by decide)
        ·
          refine lv_iload_n hx hb dX7_holdIn_74 rfl (lv_at hl 2 rfl) ?_
          refine lv_iload hx hb dX7_holdIn_75 (lv_at hl 1 rfl) ?_
          have hPc := hP.sub (ws' := []) [] rfl
          have hDc := hD.sub (ws' := []) [] (by decide) rfl
          have hFc := va_free (wc := []) hD hS hA [] rfl
          refine va_calli (va_runSN (As := [.int k_c, .int k_w]) (rest := []) ⟨hx, hb, hml, hown, hts⟩ (k_beside l G H.size k_c k_w ⟨by omega, by omega⟩) ⟨va_cnB 2 hts gW_X11_beside rfl rfl rfl (hN.1 _ g5_nw_X7_105) (hts _ ini_X11) hs_X11_beside ⟨Nat.le_of_ble_eq_true rfl, Nat.le_of_ble_eq_true rfl⟩, hts _ st_X11_beside, trivial⟩ (g5_preS hPc hK hDc hN hT hS hFc) rfl rfl hl.1 rfl (lv_room (Nat.le_of_ble_eq_true rfl)) dX7_holdIn_77 ⟨Nat.le_of_ble_eq_true rfl, Nat.le_of_ble_eq_true rfl⟩) hS (fun q _ h => hFc q h) hFc (fun r u t H1 locs ht hvm hw hB hz1 hk1 hS => ?_)
          obtain ⟨hP1, hD1⟩ := hB
          rw [ht] at hP1
          obtain ⟨z18, i_16, i_17, y19, rfl⟩ := hw
          have i_16 : z18.toInt = bs k_c.toInt k_w.toInt := i_16
          have i_17 : -1 ≤ z18.toInt ∧ z18.toInt ≤ 63 := i_17
          have hP := g5_same hP hk1
          generalize H1 = H at hP hS ⊢
          refine g5_ti (v := z18) y19 ?_
          refine lv_istore (lv' := [(5, .int z18), (3, .int k_s), (4, .int k_w), (2, .int k_c), (0, .ref a_49), (1, .int p_h)]) hx hb dX7_holdIn_80 hl (by decide) rfl (fun ls hl => ?_)
          refine lv_iload_n hx hb dX7_holdIn_82 rfl (lv_at hl 1 rfl) ?_
          refine lv_iload hx hb dX7_holdIn_83 (lv_at hl 0 rfl) ?_
          refine lv_iconst (v := (-1)) hx hb dX7_holdIn_85 (by decide) ?_
          refine lv_icmp_ne (tgt := 93) hx hb dX7_holdIn_86 (by decide) (fun c_20 => ?_) (fun c_20 => ?_)
          ·
            have i_20 : z18.toInt ≠ (-1) := by have z := g5_ne (a := z18.toInt) (b := (-1)) (by rfl) (by decide) c_20; omega
            refine lv_aload_n hx hb dX7_holdIn_93 rfl (lv_at hl 4 rfl) ?_
            refine va_get (D := G.1) (ci := 7) (v := .ref a_56) (C := RX7) (T := TX7) (N := 10) hx hb hts inG_X7 hown hK hP 0 rfl rfl 9 (by decide) (hts _ fl_X7_31) (fun _ h9 => h9) rfl dX7_holdIn_94 ?_
            refine lv_iload hx hb dX7_holdIn_97 (lv_at hl 0 rfl) ?_
            refine va_iald hx hb hK hP 4 0 rfl rfl (i := z18) (vp_in_iff.mpr ⟨by omega, by omega⟩) dX7_holdIn_99 ?_
            refine g5_ti (v := 1) (hl1 _ (by have z := g5_clamp z18; omega)) ?_
            refine lv_ior hx hb dX7_holdIn_100 ?_
            refine g5_ti (v := 1) (g5_or1 (by omega) (by omega)) ?_
            refine lv_istore_n (lv' := [(3, .int 1), (5, .int z18), (4, .int k_w), (2, .int k_c), (0, .ref a_49), (1, .int p_h)]) hx hb dX7_holdIn_101 rfl hl (by decide) rfl (fun ls hl => ?_)
            refine lv_iinc (v := (k_w + 1)) (lv' := [(4, .int (k_w + 1)), (3, .int 1), (5, .int z18), (2, .int k_c), (0, .ref a_49), (1, .int p_h)]) hx hb dX7_holdIn_102 hl (k := 2) rfl rfl (by decide) rfl (fun ls hl => ?_)
            have t_21 : (k_w + 1).toInt = k_w.toInt + 1 := g5_iadd (a := k_w.toInt) (b := 1) rfl (by decide) (by omega) (by omega)
            refine lv_goto (tgt := 55) hx hb dX7_holdIn_105 (by decide) ?_
            exact ih_55_12 ((k_w + 1), 1) ls H locs (show Int.toNat (5 - (k_w + 1).toInt) < Int.toNat (5 - k_w.toInt) by omega) ⟨lv_sub hl [1, 0, 3, 4, 5] rfl, hP, hD, hS, ⟨by omega, by omega⟩, ⟨by decide, by decide⟩, fun _ => by decide⟩
          ·
            have i_20 : z18.toInt = (-1) := by have z := g5_neN (a := z18.toInt) (b := (-1)) (by rfl) (by decide) c_20; omega
            refine lv_iconst (v := 0) hx hb dX7_holdIn_89 (by decide) ?_
            refine lv_goto (tgt := 100) hx hb dX7_holdIn_90 (by decide) ?_
            refine lv_ior hx hb dX7_holdIn_100 ?_
            refine g5_ti (v := k_s) (by simp) ?_
            refine lv_istore_n (lv' := [(3, .int k_s), (5, .int z18), (4, .int k_w), (2, .int k_c), (0, .ref a_49), (1, .int p_h)]) hx hb dX7_holdIn_101 rfl hl (by decide) rfl (fun ls hl => ?_)
            refine lv_iinc (v := (k_w + 1)) (lv' := [(4, .int (k_w + 1)), (3, .int k_s), (5, .int z18), (2, .int k_c), (0, .ref a_49), (1, .int p_h)]) hx hb dX7_holdIn_102 hl (k := 2) rfl rfl (by decide) rfl (fun ls hl => ?_)
            have t_22 : (k_w + 1).toInt = k_w.toInt + 1 := g5_iadd (a := k_w.toInt) (b := 1) rfl (by decide) (by omega) (by omega)
            refine lv_goto (tgt := 55) hx hb dX7_holdIn_105 (by decide) ?_
            exact ih_55_12 ((k_w + 1), k_s) ls H locs (show Int.toNat (5 - (k_w + 1).toInt) < Int.toNat (5 - k_w.toInt) by omega) ⟨lv_sub hl [1, 0, 3, 4, 5] rfl, hP, hD, hS, ⟨by omega, by omega⟩, ⟨by omega, by omega⟩, fun h => by have z := i_16; unfold bs at z; omega⟩
  ·
    have i_4 : k_i.toInt < 64 := by have z := g5_geN (a := k_i.toInt) (b := 64) (by rfl) (by decide) c_4; omega
    refine lv_aload_n hx hb dX7_holdIn_8 rfl (lv_at hl 1 rfl) ?_
    refine va_get (D := G.1) (ci := 7) (v := .ref a_56) (C := RX7) (T := TX7) (N := 10) hx hb hts inG_X7 hown hK hP 0 rfl rfl 9 (by decide) (hts _ fl_X7_31) (fun _ h9 => h9) rfl dX7_holdIn_9 ?_
    refine lv_iload_n hx hb dX7_holdIn_12 rfl (lv_at hl 0 rfl) ?_
    refine lv_aload_n hx hb dX7_holdIn_13 rfl (lv_at hl 1 rfl) ?_
    refine va_get (D := G.1) (ci := 7) (v := .ref a_55) (C := RX7) (T := TX7) (N := 10) hx hb hts inG_X7 hown hK hP 0 rfl rfl 8 (by decide) (hts _ fl_X7_28) (fun _ h9 => h9) rfl dX7_holdIn_14 ?_
    refine lv_iload_n hx hb dX7_holdIn_17 rfl (lv_at hl 0 rfl) ?_
    refine va_iald hx hb hK hP 3 0 rfl rfl (i := k_i) (vp_in_iff.mpr ⟨by omega, by omega⟩) dX7_holdIn_18 ?_
    refine g5_ti (v := 1) (e_h _ (by have z := g5_clamp k_i; omega)) ?_
    refine lv_aload_n hx hb dX7_holdIn_19 rfl (lv_at hl 1 rfl) ?_
    refine va_get (D := G.1) (ci := 7) (v := .ref a_51) (C := RX7) (T := TX7) (N := 10) hx hb hts inG_X7 hown hK hP 0 rfl rfl 3 (by decide) (hts _ fl_X7_15) (fun _ h9 => h9) rfl dX7_holdIn_20 ?_
    refine lv_iload_n hx hb dX7_holdIn_23 rfl (lv_at hl 2 rfl) ?_
    refine lv_iconst (v := 1) hx hb dX7_holdIn_24 (by decide) ?_
    refine lv_isub hx hb dX7_holdIn_25 ?_
    have t_23 : (p_h - 1).toInt = p_h.toInt - 1 := g5_isub (a := p_h.toInt) (b := 1) (by rfl) (by decide) (by omega) (by omega)
    refine lv_bipush (v := 64) hx hb dX7_holdIn_26 (by decide) ?_
    refine lv_imul hx hb dX7_holdIn_28 ?_
    have t_24 : ((p_h - 1) * 64).toInt = (p_h - 1).toInt * 64 := g5_imul (a := (p_h - 1).toInt) (b := 64) (by rfl) (by decide) (by omega) (by omega)
    refine lv_iload_n hx hb dX7_holdIn_29 rfl (lv_at hl 0 rfl) ?_
    refine lv_iadd hx hb dX7_holdIn_30 ?_
    have t_25 : (((p_h - 1) * 64) + k_i).toInt = ((p_h - 1) * 64).toInt + k_i.toInt := g5_iadd (a := ((p_h - 1) * 64).toInt) (b := k_i.toInt) (by rfl) (by rfl) (by omega) (by omega)
    refine va_iald hx hb hK hP 2 0 rfl rfl (i := (((p_h - 1) * 64) + k_i)) (vp_in_iff.mpr ⟨by omega, by omega⟩) dX7_holdIn_31 ?_
    refine g5_ti (v := 0) rfl ?_
    have hPc := hP.sub (ws' := []) [] rfl
    have hDc := hD.sub (ws' := []) [] (by decide) rfl
    have hFc := va_free (wc := []) hD hS hA [] rfl
    refine va_calli (va_runS (As := [.int 1, .int 0]) (rest := [.int k_i, .ref a_56]) ⟨hx, hb, hml, hown, hts⟩ (kX7_masksAfter l G H.size) (va_cwS 2 hts gS_X7_124 rfl rfl rfl hs_X7_masksAfter ⟨Nat.le_of_ble_eq_true rfl, Nat.le_of_ble_eq_true rfl⟩) (g5_preS hPc hK hDc hN hT hS hFc) rfl rfl hl.1 rfl (lv_room (Nat.le_of_ble_eq_true rfl)) dX7_holdIn_32 ⟨Nat.le_of_ble_eq_true rfl, Nat.le_of_ble_eq_true rfl⟩) hS (fun q _ h => hFc q h) hFc (fun r u t H1 locs ht hvm hw hB hz1 hk1 hS => ?_)
    obtain ⟨hP1, hD1⟩ := hB
    rw [ht] at hP1
    obtain ⟨rfl, rfl⟩ := hw
    have hP := g5_same hP hk1
    generalize H1 = H at hP hS ⊢
    refine va_iast hx hb hK hP hD hS 4 0 rfl rfl (i := k_i) (x := 1) (vp_in_iff.mpr ⟨by omega, by omega⟩) dX7_holdIn_35 (fun H locs hP hD hS => ?_)
    have hP : va_P G.1 vwCl [(a_49, .inr (7, [.ref a_1, .ref a_42, .ref a_50, .ref a_51, .int 0, .ref a_52, .ref a_53, .ref a_54, .ref a_55, .ref a_56])), (a_50, .inl (G.2 1, 24, .inr (.inl (fun _ => 0)))), (a_51, .inl (G.2 0, 1536, .inl (fun _ => 0))), (a_55, .inl (G.2 0, 64, .inl f_e)), (a_56, .inl (G.2 0, 64, .inl (upd k_f k_i.toNatClampNeg 1)))] H := hP
    have hD : va_D A [(a_49, .inr (7, [.ref a_1, .ref a_42, .ref a_50, .ref a_51, .int 0, .ref a_52, .ref a_53, .ref a_54, .ref a_55, .ref a_56])), (a_50, .inl (G.2 1, 24, .inr (.inl (fun _ => 0)))), (a_51, .inl (G.2 0, 1536, .inl (fun _ => 0))), (a_55, .inl (G.2 0, 64, .inl f_e)), (a_56, .inl (G.2 0, 64, .inl (upd k_f k_i.toNatClampNeg 1)))] := hD
    refine lv_iinc (v := (k_i + 1)) (lv' := [(2, .int (k_i + 1)), (0, .ref a_49), (1, .int p_h)]) hx hb dX7_holdIn_36 hl (k := 0) rfl rfl (by decide) rfl (fun ls hl => ?_)
    have t_26 : (k_i + 1).toInt = k_i.toInt + 1 := g5_iadd (a := k_i.toInt) (b := 1) rfl (by decide) (by omega) (by omega)
    refine lv_goto (tgt := 2) hx hb dX7_holdIn_39 (by decide) ?_
    exact ih_2_3 ((k_i + 1), (upd k_f k_i.toNatClampNeg 1)) ls H locs (show Int.toNat (64 - (k_i + 1).toInt) < Int.toNat (64 - k_i.toInt) by omega) ⟨lv_sub hl [0, 1, 2] rfl, hP, hD, hS, ⟨by omega, by omega⟩, g5_fillI i_2 (by omega) (by omega) rfl⟩
theorem dX7_cellsIn_0 : decode cX7_cellsIn 0 = .ok (.aload_n 0, 1) := by decide +kernel
theorem dX7_cellsIn_1 : decode cX7_cellsIn 1 = .ok (.invokevirtual 117, 3) := by decide +kernel
theorem dX7_cellsIn_4 : decode cX7_cellsIn 4 = .ok (.ifCond .ne 5, 3) := by decide +kernel
theorem dX7_cellsIn_7 : decode cX7_cellsIn 7 = .ok (.lconst 0, 1) := by decide +kernel
theorem dX7_cellsIn_8 : decode cX7_cellsIn 8 = .ok (.lreturn, 1) := by decide +kernel
theorem dX7_cellsIn_9 : decode cX7_cellsIn 9 = .ok (.iconst 0, 1) := by decide +kernel
theorem dX7_cellsIn_10 : decode cX7_cellsIn 10 = .ok (.istore_n 2, 1) := by decide +kernel
theorem dX7_cellsIn_11 : decode cX7_cellsIn 11 = .ok (.iload_n 2, 1) := by decide +kernel
theorem dX7_cellsIn_12 : decode cX7_cellsIn 12 = .ok (.bipush 64, 2) := by decide +kernel
theorem dX7_cellsIn_14 : decode cX7_cellsIn 14 = .ok (.if_icmp .ge 33, 3) := by decide +kernel
theorem dX7_cellsIn_17 : decode cX7_cellsIn 17 = .ok (.aload_n 0, 1) := by decide +kernel
theorem dX7_cellsIn_18 : decode cX7_cellsIn 18 = .ok (.getfield 28, 3) := by decide +kernel
theorem dX7_cellsIn_21 : decode cX7_cellsIn 21 = .ok (.iload_n 2, 1) := by decide +kernel
theorem dX7_cellsIn_22 : decode cX7_cellsIn 22 = .ok (.aload_n 0, 1) := by decide +kernel
theorem dX7_cellsIn_23 : decode cX7_cellsIn 23 = .ok (.getfield 9, 3) := by decide +kernel
theorem dX7_cellsIn_26 : decode cX7_cellsIn 26 = .ok (.iconst 0, 1) := by decide +kernel
theorem dX7_cellsIn_27 : decode cX7_cellsIn 27 = .ok (.laload, 1) := by decide +kernel
theorem dX7_cellsIn_28 : decode cX7_cellsIn 28 = .ok (.iload_n 2, 1) := by decide +kernel
theorem dX7_cellsIn_29 : decode cX7_cellsIn 29 = .ok (.invokestatic 98, 3) := by decide +kernel
theorem dX7_cellsIn_32 : decode cX7_cellsIn 32 = .ok (.ifCond .eq 7, 3) := by decide +kernel
theorem dX7_cellsIn_35 : decode cX7_cellsIn 35 = .ok (.iconst 0, 1) := by decide +kernel
theorem dX7_cellsIn_36 : decode cX7_cellsIn 36 = .ok (.goto 4, 3) := by decide +kernel
theorem dX7_cellsIn_39 : decode cX7_cellsIn 39 = .ok (.iconst 1, 1) := by decide +kernel
theorem dX7_cellsIn_40 : decode cX7_cellsIn 40 = .ok (.iastore, 1) := by decide +kernel
theorem dX7_cellsIn_41 : decode cX7_cellsIn 41 = .ok (.iinc 2 1, 3) := by decide +kernel
theorem dX7_cellsIn_44 : decode cX7_cellsIn 44 = .ok (.goto (-33), 3) := by decide +kernel
theorem dX7_cellsIn_47 : decode cX7_cellsIn 47 = .ok (.iconst 1, 1) := by decide +kernel
theorem dX7_cellsIn_48 : decode cX7_cellsIn 48 = .ok (.istore_n 2, 1) := by decide +kernel
theorem dX7_cellsIn_49 : decode cX7_cellsIn 49 = .ok (.iload_n 2, 1) := by decide +kernel
theorem dX7_cellsIn_50 : decode cX7_cellsIn 50 = .ok (.iload_n 1, 1) := by decide +kernel
theorem dX7_cellsIn_51 : decode cX7_cellsIn 51 = .ok (.if_icmp .gt 14, 3) := by decide +kernel
theorem dX7_cellsIn_54 : decode cX7_cellsIn 54 = .ok (.aload_n 0, 1) := by decide +kernel
theorem dX7_cellsIn_55 : decode cX7_cellsIn 55 = .ok (.iload_n 2, 1) := by decide +kernel
theorem dX7_cellsIn_56 : decode cX7_cellsIn 56 = .ok (.invokevirtual 121, 3) := by decide +kernel
theorem dX7_cellsIn_59 : decode cX7_cellsIn 59 = .ok (.iinc 2 1, 3) := by decide +kernel
theorem dX7_cellsIn_62 : decode cX7_cellsIn 62 = .ok (.goto (-13), 3) := by decide +kernel
theorem dX7_cellsIn_65 : decode cX7_cellsIn 65 = .ok (.lconst 0, 1) := by decide +kernel
theorem dX7_cellsIn_66 : decode cX7_cellsIn 66 = .ok (.lstore_n 2, 1) := by decide +kernel
theorem dX7_cellsIn_67 : decode cX7_cellsIn 67 = .ok (.iconst 0, 1) := by decide +kernel
theorem dX7_cellsIn_68 : decode cX7_cellsIn 68 = .ok (.istore 4, 2) := by decide +kernel
theorem dX7_cellsIn_70 : decode cX7_cellsIn 70 = .ok (.iload 4, 2) := by decide +kernel
theorem dX7_cellsIn_72 : decode cX7_cellsIn 72 = .ok (.bipush 64, 2) := by decide +kernel
theorem dX7_cellsIn_74 : decode cX7_cellsIn 74 = .ok (.if_icmp .ge 39, 3) := by decide +kernel
theorem dX7_cellsIn_77 : decode cX7_cellsIn 77 = .ok (.aload_n 0, 1) := by decide +kernel
theorem dX7_cellsIn_78 : decode cX7_cellsIn 78 = .ok (.getfield 28, 3) := by decide +kernel
theorem dX7_cellsIn_81 : decode cX7_cellsIn 81 = .ok (.iload 4, 2) := by decide +kernel
theorem dX7_cellsIn_83 : decode cX7_cellsIn 83 = .ok (.iaload, 1) := by decide +kernel
theorem dX7_cellsIn_84 : decode cX7_cellsIn 84 = .ok (.aload_n 0, 1) := by decide +kernel
theorem dX7_cellsIn_85 : decode cX7_cellsIn 85 = .ok (.getfield 25, 3) := by decide +kernel
theorem dX7_cellsIn_88 : decode cX7_cellsIn 88 = .ok (.iload_n 1, 1) := by decide +kernel
theorem dX7_cellsIn_89 : decode cX7_cellsIn 89 = .ok (.bipush 64, 2) := by decide +kernel
theorem dX7_cellsIn_91 : decode cX7_cellsIn 91 = .ok (.imul, 1) := by decide +kernel
theorem dX7_cellsIn_92 : decode cX7_cellsIn 92 = .ok (.iload 4, 2) := by decide +kernel
theorem dX7_cellsIn_94 : decode cX7_cellsIn 94 = .ok (.iadd, 1) := by decide +kernel
theorem dX7_cellsIn_95 : decode cX7_cellsIn 95 = .ok (.iaload, 1) := by decide +kernel
theorem dX7_cellsIn_96 : decode cX7_cellsIn 96 = .ok (.iand, 1) := by decide +kernel
theorem dX7_cellsIn_97 : decode cX7_cellsIn 97 = .ok (.ifCond .eq 10, 3) := by decide +kernel
theorem dX7_cellsIn_100 : decode cX7_cellsIn 100 = .ok (.lload_n 2, 1) := by decide +kernel
theorem dX7_cellsIn_101 : decode cX7_cellsIn 101 = .ok (.lconst 1, 1) := by decide +kernel
theorem dX7_cellsIn_102 : decode cX7_cellsIn 102 = .ok (.iload 4, 2) := by decide +kernel
theorem dX7_cellsIn_104 : decode cX7_cellsIn 104 = .ok (.lshl, 1) := by decide +kernel
theorem dX7_cellsIn_105 : decode cX7_cellsIn 105 = .ok (.lor, 1) := by decide +kernel
theorem dX7_cellsIn_106 : decode cX7_cellsIn 106 = .ok (.lstore_n 2, 1) := by decide +kernel
theorem dX7_cellsIn_107 : decode cX7_cellsIn 107 = .ok (.iinc 4 1, 3) := by decide +kernel
theorem dX7_cellsIn_110 : decode cX7_cellsIn 110 = .ok (.goto (-40), 3) := by decide +kernel
theorem dX7_cellsIn_113 : decode cX7_cellsIn 113 = .ok (.lload_n 2, 1) := by decide +kernel
theorem dX7_cellsIn_114 : decode cX7_cellsIn 114 = .ok (.lreturn, 1) := by decide +kernel
theorem ml_X7_117 : Cond.methodLink RX7 117 yX7_anyFits ∈ tblG := tg 996 (by decide +kernel) (by decide +kernel)
theorem im_X7_anyFits : Cond.instanceMethod yX7_anyFits ∈ tblG := tg 998 (by decide +kernel) (by decide +kernel)
theorem se_X7_anyFits : Cond.selects RX7 yX7_anyFits yX7_anyFits ∈ tblG := tg 22 (by decide +kernel) (by decide +kernel)
theorem cd_X7_anyFits : Cond.code yX7_anyFits cX7_anyFits 5 (some .boolean) ∈ tblG := tg 999 (by decide +kernel) (by decide +kernel)
theorem gW_X7_anyFits : GoodIn tblG (wsG yX7_anyFits cX7_anyFits 5 (some .boolean)) := tgi cd_X7_anyFits
theorem gV_X7_117 : GoodIn tblG (wsV RX7 117 RX7 yX7_anyFits (wsG yX7_anyFits cX7_anyFits 5 (some .boolean))) := tgV ml_X7_117 im_X7_anyFits se_X7_anyFits ini_X7 gW_X7_anyFits
theorem hv_X7_anyFits : yX7_anyFits.cls = RX7 ∧ yX7_anyFits.cls ≠ "java/lang/invoke/MethodHandle" ∧ yX7_anyFits.cls ≠ "java/lang/invoke/VarHandle" ∧ (parseMethodDescriptor yX7_anyFits.desc).map (fun d => d.parameters.length) = some 0 := by decide +kernel
theorem ml_X7_121 : Cond.methodLink RX7 121 yX7_holdIn ∈ tblG := tg 1009 (by decide +kernel) (by decide +kernel)
theorem im_X7_holdIn : Cond.instanceMethod yX7_holdIn ∈ tblG := tg 1011 (by decide +kernel) (by decide +kernel)
theorem se_X7_holdIn : Cond.selects RX7 yX7_holdIn yX7_holdIn ∈ tblG := tg 24 (by decide +kernel) (by decide +kernel)
theorem cd_X7_holdIn : Cond.code yX7_holdIn cX7_holdIn 6 none ∈ tblG := tg 1012 (by decide +kernel) (by decide +kernel)
theorem gW_X7_holdIn : GoodIn tblG (wsG yX7_holdIn cX7_holdIn 6 none) := tgi cd_X7_holdIn
theorem gV_X7_121 : GoodIn tblG (wsV RX7 121 RX7 yX7_holdIn (wsG yX7_holdIn cX7_holdIn 6 none)) := tgV ml_X7_121 im_X7_holdIn se_X7_holdIn ini_X7 gW_X7_holdIn
theorem hv_X7_holdIn : yX7_holdIn.cls = RX7 ∧ yX7_holdIn.cls ≠ "java/lang/invoke/MethodHandle" ∧ yX7_holdIn.cls ≠ "java/lang/invoke/VarHandle" ∧ (parseMethodDescriptor yX7_holdIn.desc).map (fun d => d.parameters.length) = some 1 := by decide +kernel
