set_option maxHeartbeats 4000000 in
set_option maxRecDepth 100000 in
theorem k_letterX (l : Launch) (G : g5_G) (sz : Nat) (p_x : Int32) : Met l yX8_isLetter (wsG yX8_isLetter cX8_isLetter 1 (some .boolean)) ({ frames := 0, cells := 0, slots := 0, locals := 0 }) (va_Pc [.int p_x] (g5_P G [] sz)) (va_Qi (fun (r : Int32) (u : va_W) => ((97 ≤ p_x.toInt ∧ p_x.toInt ≤ 122) ∧ (r = 1) ∧ (u = [])) ∨ ((p_x.toInt < 97 ∨ 122 < p_x.toInt) ∧ (r = 0) ∧ (u = []))) (g5_B G (va_A [] sz)) (va_A [] sz)) 0 0 (va_A [] sz) := by
  refine Met.ofW (cc := cX8_isLetter) (maxL := 1) (ret := (some .boolean)) (by decide) rfl ?_
  intro p e s m args below meth c s₁ B hml hv
  obtain ⟨rfl, hsz, hP, hK, hD0, hN, hT⟩ := hv
  have hx := B.exec
  have hb := B.bytes
  have hr := B.returns
  have hts : ∀ w ∈ tblG, w.before _ s = true := fun w h => atoms_spec (ws := (wsG yX8_isLetter cX8_isLetter 1 (some .boolean))) B.pre w (List.mem_cons_of_mem _ h)
  have hown : s.vm.findClass RX8 = some m.cls := findClass_of_methodNamed B.named
  have hlocks := B.notSynchronized
  subst hsz
  have hD := hD0.self (sz := s.heap.size)
  generalize hAe : va_A [] s.heap.size = A at hD hT ⊢
  have hA : ∀ q : Nat, s.heap.size ≤ q → A q := fun q h => by rw [← hAe]; exact Or.inr h
  have hS : va_S A s.heap s.heap [] := va_S.rf
  have hP : va_P G.1 vwCl [] s.heap := hP
  have hl := lv_entry ([.int p_x]) (n := 1) (Nat.le_of_ble_eq_true rfl)
  rw [lg_entry_eq]
  generalize (lg_sl ([.int p_x]) ++ List.replicate (1 - (lg_sl ([.int p_x])).length) Slot.unset).toArray = ls at hl ⊢
  have hl : lv_has ls 1 [(0, .int p_x)] := hl
  refine lv_iload_n hx hb dX8_isLetter_0 rfl (lv_at hl 0 rfl) ?_
  refine lv_bipush (v := 97) hx hb dX8_isLetter_1 (by decide) ?_
  refine lv_icmp_lt (tgt := 16) hx hb dX8_isLetter_3 (by decide) (fun c_1 => ?_) (fun c_1 => ?_)
  ·
    have i_1 : p_x.toInt < 97 := by have z := g5_lt (a := p_x.toInt) (b := 97) (by rfl) (by decide) c_1; omega
    refine lv_iconst (v := 0) hx hb dX8_isLetter_16 (by decide) ?_
    exact W.zret (v := 0) hx hb hr rfl (fun t ht hW => ⟨⟨0, [], rfl, Or.inr (⟨by omega, rfl, rfl⟩), by rw [ht]; exact hP.sub [] rfl, hD.sub [] (by decide) rfl⟩, hS.F ht⟩) hS.2.2 dX8_isLetter_17
  ·
    have i_1 : p_x.toInt ≥ 97 := by have z := g5_ltN (a := p_x.toInt) (b := 97) (by rfl) (by decide) c_1; omega
    refine lv_iload_n hx hb dX8_isLetter_6 rfl (lv_at hl 0 rfl) ?_
    refine lv_bipush (v := 122) hx hb dX8_isLetter_7 (by decide) ?_
    refine lv_icmp_gt (tgt := 16) hx hb dX8_isLetter_9 (by decide) (fun c_2 => ?_) (fun c_2 => ?_)
    ·
      have i_2 : p_x.toInt > 122 := by have z := g5_gt (a := p_x.toInt) (b := 122) (by rfl) (by decide) c_2; omega
      refine lv_iconst (v := 0) hx hb dX8_isLetter_16 (by decide) ?_
      exact W.zret (v := 0) hx hb hr rfl (fun t ht hW => ⟨⟨0, [], rfl, Or.inr (⟨by omega, rfl, rfl⟩), by rw [ht]; exact hP.sub [] rfl, hD.sub [] (by decide) rfl⟩, hS.F ht⟩) hS.2.2 dX8_isLetter_17
    ·
      have i_2 : p_x.toInt ≤ 122 := by have z := g5_gtN (a := p_x.toInt) (b := 122) (by rfl) (by decide) c_2; omega
      refine lv_iconst (v := 1) hx hb dX8_isLetter_12 (by decide) ?_
      refine lv_goto (tgt := 17) hx hb dX8_isLetter_13 (by decide) ?_
      exact W.zret (v := 1) hx hb hr rfl (fun t ht hW => ⟨⟨1, [], rfl, Or.inl (⟨by omega, rfl, rfl⟩), by rw [ht]; exact hP.sub [] rfl, hD.sub [] (by decide) rfl⟩, hS.F ht⟩) hS.2.2 dX8_isLetter_17
set_option maxHeartbeats 4000000 in
set_option maxRecDepth 100000 in
theorem k_endOfX (l : Launch) (G : g5_G) (a_x : Nat) (sz : Nat) (p_a : Int32) (p_n : Int32) (f_x : Nat → Int32) (h_p_a : 0 ≤ p_a.toInt ∧ p_a.toInt ≤ 399) (h_p_n : 0 ≤ p_n.toInt ∧ p_n.toInt ≤ 400) (e_an : p_a.toInt < p_n.toInt) : Met l yX8_endOf (wsG yX8_endOf cX8_endOf 4 (some .int)) ({ frames := 1, cells := 0, slots := 0, locals := 20 }) (va_Pc [.ref a_x, .int p_a, .int p_n] (g5_P G [(a_x, (arI G 400 f_x))] sz)) (va_Qi (fun (r : Int32) (u : va_W) => (∃ (o_r : Int32), (p_a.toInt < o_r.toInt ∧ o_r.toInt ≤ p_n.toInt) ∧ (o_r.toInt = (enT f_x p_n.toInt.toNat p_a.toInt.toNat : Int)) ∧ (r = o_r) ∧ (u = [(a_x, (arI G 400 f_x))]))) (g5_B G (va_A [(a_x, (arI G 400 f_x))] sz)) (va_A [(a_x, (arI G 400 f_x))] sz)) 0 0 (va_A [(a_x, (arI G 400 f_x))] sz) := by
  refine Met.ofW (cc := cX8_endOf) (maxL := 4) (ret := (some .int)) (by decide +kernel) rfl ?_
  intro p e s m args below meth c s₁ B hml hv
  obtain ⟨rfl, hsz, hP, hK, hD0, hN, hT⟩ := hv
  have hx := B.exec
  have hb := B.bytes
  have hr := B.returns
  have hts : ∀ w ∈ tblG, w.before _ s = true := fun w h => atoms_spec (ws := (wsG yX8_endOf cX8_endOf 4 (some .int))) B.pre w (List.mem_cons_of_mem _ h)
  have hown : s.vm.findClass RX8 = some m.cls := findClass_of_methodNamed B.named
  have hlocks := B.notSynchronized
  subst hsz
  have hD := hD0.self (sz := s.heap.size)
  generalize hAe : va_A [(a_x, (arI G 400 f_x))] s.heap.size = A at hD hT ⊢
  have hA : ∀ q : Nat, s.heap.size ≤ q → A q := fun q h => by rw [← hAe]; exact Or.inr h
  have hS : va_S A s.heap s.heap [] := va_S.rf
  replace hP : va_P G.1 vwCl [(a_x, (arI G 400 f_x))] s.heap := hP
  have hl := lv_entry ([.ref a_x, .int p_a, .int p_n]) (n := 4) (Nat.le_of_ble_eq_true rfl)
  rw [lg_entry_eq]
  generalize (lg_sl ([.ref a_x, .int p_a, .int p_n]) ++ List.replicate (4 - (lg_sl ([.ref a_x, .int p_a, .int p_n])).length) Slot.unset).toArray = ls at hl ⊢
  replace hl : lv_has ls 4 [(0, .ref a_x), (1, .int p_a), (2, .int p_n)] := hl
  refine lv_iload_n hx hb dX8_endOf_0 rfl (lv_at hl 1 rfl) ?_
  refine lv_iconst (v := 1) hx hb dX8_endOf_1 (by decide +kernel) ?_
  refine lv_iadd hx hb dX8_endOf_2 ?_
  have t_1 : (p_a + 1).toInt = p_a.toInt + 1 := g5_iadd (a := p_a.toInt) (b := 1) (by rfl) (by decide +kernel) (by omega) (by omega)
  refine lv_istore_n (lv' := [(3, .int (p_a + 1)), (0, .ref a_x), (1, .int p_a), (2, .int p_n)]) hx hb dX8_endOf_3 rfl hl (by decide +kernel) rfl ?_
  clear hl
  intro ls hl
  refine W.eq (g2 := F0 m 4 ls []) rfl ?_
  refine lv_aload_n hx hb dX8_endOf_4 rfl (lv_at hl 1 rfl) ?_
  refine lv_iload_n hx hb dX8_endOf_5 rfl (lv_at hl 2 rfl) ?_
  refine va_iald hx hb hK hP 0 0 rfl rfl (i := p_a) (vp_in_iff.mpr ⟨by omega, by omega⟩) dX8_endOf_6 ?_
  obtain ⟨hPc, hDc, hFc⟩ := g5_sub3 (wc := []) hP hD hS hA [] (by decide +kernel) rfl
  refine va_calli (va_runS (As := [.int (f_x p_a.toNatClampNeg)]) (rest := []) ⟨hx, hb, hml, hown, hts⟩ (k_letterX l G s.heap.size (f_x p_a.toNatClampNeg)) (va_cwS 1 hts gS_X8_35 rfl rfl rfl hs_X8_isLetter ⟨Nat.le_of_ble_eq_true rfl, Nat.le_of_ble_eq_true rfl⟩) (g5_preS hPc hK hDc hN hT hS hFc) rfl rfl hl.1 rfl (lv_room (Nat.le_of_ble_eq_true rfl)) dX8_endOf_7 ⟨Nat.le_of_ble_eq_true rfl, Nat.le_of_ble_eq_true rfl⟩) hS (fun q _ h => hFc q h) hFc (fun r u t H locs ht hvm hw hB hz1 hk1 hS => ?_)
  obtain ⟨hP1, hD1⟩ := hB
  have hP1 := g5_ht ht hP1
  rcases hw with ⟨(i_2 : 97 ≤ (f_x p_a.toNatClampNeg).toInt ∧ (f_x p_a.toNatClampNeg).toInt ≤ 122), rfl, rfl⟩ | ⟨(i_3 : (f_x p_a.toNatClampNeg).toInt < 97 ∨ 122 < (f_x p_a.toNatClampNeg).toInt), rfl, rfl⟩
  ·
    have hJ9 := g5_same hP hk1
    clear hP hPc hDc hFc ht hvm hz1 hk1 hP1 hD1
    have hP := hJ9
    clear hJ9
    refine lv_if_eq (tgt := 33) hx hb dX8_endOf_10 (by decide +kernel) (fun c_4 => ?_) (fun c_4 => ?_)
    ·
      exact absurd c_4 (by decide +kernel)
    ·
      refine g5_loop (α := (Int32)) (fun (k_n : (Int32)) (ls : Array Slot) (H : Heap) (locs : List Loc) => lv_has ls 4 [(3, .int k_n), (0, .ref a_x), (1, .int p_a), (2, .int p_n)] ∧ va_P G.1 vwCl [(a_x, (arI G 400 f_x))] H ∧ va_D A [(a_x, (arI G 400 f_x))] ∧ va_S A s.heap H locs ∧ (0 ≤ k_n.toInt ∧ k_n.toInt ≤ 400) ∧ (p_a.toInt < k_n.toInt ∧ k_n.toInt ≤ p_n.toInt) ∧ (runT bLt f_x p_n.toInt.toNat k_n.toInt.toNat = enT f_x p_n.toInt.toNat p_a.toInt.toNat)) (fun (k_n : (Int32)) => Int.toNat (400 - k_n.toInt)) (p_a + 1) ⟨lv_sub hl [0, 1, 2, 3] rfl, hP, hD, hS, ⟨by omega, by omega⟩, ⟨by omega, by omega⟩, enc_L0 (by omega) (by omega) i_2 (by omega)⟩ ?_
      rintro k_n ls H locs ⟨hl, hP, hD, hS, (i_5 : 0 ≤ k_n.toInt ∧ k_n.toInt ≤ 400), (i_6 : p_a.toInt < k_n.toInt ∧ k_n.toInt ≤ p_n.toInt), (i_7 : runT bLt f_x p_n.toInt.toNat k_n.toInt.toNat = enT f_x p_n.toInt.toNat p_a.toInt.toNat)⟩ ih_13_8
      replace hl : lv_has ls 4 [(3, .int k_n), (0, .ref a_x), (1, .int p_a), (2, .int p_n)] := hl
      refine g5_rs [(a_x, (arI G 400 f_x))] hP hD ?_
      clear hP hD
      intro hP hD
      refine lv_iload_n hx hb dX8_endOf_13 rfl (lv_at hl 0 rfl) ?_
      refine lv_iload_n hx hb dX8_endOf_14 rfl (lv_at hl 3 rfl) ?_
      refine lv_icmp_ge (tgt := 62) hx hb dX8_endOf_15 (by decide +kernel) (fun c_9 => ?_) (fun c_9 => ?_)
      ·
        have i_9 : k_n.toInt ≥ p_n.toInt := g5_ge (a := k_n.toInt) (b := p_n.toInt) rfl rfl c_9
        refine lv_iload_n hx hb dX8_endOf_62 rfl (lv_at hl 0 rfl) ?_
        exact W.iret (v := k_n) hx hb hr (fun t ht hW => ⟨⟨k_n, [(a_x, (arI G 400 f_x))], rfl, ⟨k_n, ⟨by omega, by omega⟩, enc_LE i_7 (by omega) (Or.inl (by omega)), rfl, rfl⟩, by rw [ht]; exact hP.sub [0] rfl, hD.sub [0] (by decide +kernel) rfl⟩, hS.F ht⟩) hS.2.2 dX8_endOf_63
      ·
        have i_9 : k_n.toInt < p_n.toInt := g5_geN (a := k_n.toInt) (b := p_n.toInt) rfl rfl c_9
        refine lv_aload_n hx hb dX8_endOf_18 rfl (lv_at hl 1 rfl) ?_
        refine lv_iload_n hx hb dX8_endOf_19 rfl (lv_at hl 0 rfl) ?_
        refine va_iald hx hb hK hP 0 0 rfl rfl (i := k_n) (vp_in_iff.mpr ⟨by omega, by omega⟩) dX8_endOf_20 ?_
        obtain ⟨hPc, hDc, hFc⟩ := g5_sub3 (wc := []) hP hD hS hA [] (by decide +kernel) rfl
        refine va_calli (va_runS (As := [.int (f_x k_n.toNatClampNeg)]) (rest := []) ⟨hx, hb, hml, hown, hts⟩ (k_letterX l G H.size (f_x k_n.toNatClampNeg)) (va_cwS 1 hts gS_X8_35 rfl rfl rfl hs_X8_isLetter ⟨Nat.le_of_ble_eq_true rfl, Nat.le_of_ble_eq_true rfl⟩) (g5_preS hPc hK hDc hN hT hS hFc) rfl rfl hl.1 rfl (lv_room (Nat.le_of_ble_eq_true rfl)) dX8_endOf_21 ⟨Nat.le_of_ble_eq_true rfl, Nat.le_of_ble_eq_true rfl⟩) hS (fun q _ h => hFc q h) hFc (fun r u t H locs ht hvm hw hB hz1 hk1 hS => ?_)
        obtain ⟨hP1, hD1⟩ := hB
        have hP1 := g5_ht ht hP1
        rcases hw with ⟨(i_10 : 97 ≤ (f_x k_n.toNatClampNeg).toInt ∧ (f_x k_n.toNatClampNeg).toInt ≤ 122), rfl, rfl⟩ | ⟨(i_11 : (f_x k_n.toNatClampNeg).toInt < 97 ∨ 122 < (f_x k_n.toNatClampNeg).toInt), rfl, rfl⟩
        ·
          have hJ9 := g5_same hP hk1
          clear hP hPc hDc hFc ht hvm hz1 hk1 hP1 hD1
          have hP := hJ9
          clear hJ9
          refine lv_if_eq (tgt := 62) hx hb dX8_endOf_24 (by decide +kernel) (fun c_12 => ?_) (fun c_12 => ?_)
          ·
            exact absurd c_12 (by decide +kernel)
          ·
            refine lv_iinc (v := (k_n + 1)) (lv' := [(3, .int (k_n + 1)), (0, .ref a_x), (1, .int p_a), (2, .int p_n)]) hx hb dX8_endOf_27 hl (k := 0) rfl rfl (by decide +kernel) rfl ?_
            clear hl
            intro ls hl
            have t_13 : (k_n + 1).toInt = k_n.toInt + 1 := g5_iadd (a := k_n.toInt) (b := 1) rfl (by decide +kernel) (by omega) (by omega)
            refine lv_goto (tgt := 13) hx hb dX8_endOf_30 (by decide +kernel) ?_
            exact ih_13_8 (k_n + 1) ls H locs (show Int.toNat (400 - (k_n + 1).toInt) < Int.toNat (400 - k_n.toInt) from g_up (show k_n.toInt < (k_n + 1).toInt by omega) (show k_n.toInt < 400 by omega)) ⟨lv_sub hl [0, 1, 2, 3] rfl, hP, hD, hS, ⟨by omega, by omega⟩, ⟨by omega, by omega⟩, enc_LS i_7 (by omega) (by omega) i_10 (by omega)⟩
        ·
          have hJ9 := g5_same hP hk1
          clear hP hPc hDc hFc ht hvm hz1 hk1 hP1 hD1
          have hP := hJ9
          clear hJ9
          refine lv_if_eq (tgt := 62) hx hb dX8_endOf_24 (by decide +kernel) (fun c_14 => ?_) (fun c_14 => ?_)
          ·
            refine lv_iload_n hx hb dX8_endOf_62 rfl (lv_at hl 0 rfl) ?_
            exact W.iret (v := k_n) hx hb hr (fun t ht hW => ⟨⟨k_n, [(a_x, (arI G 400 f_x))], rfl, ⟨k_n, ⟨by omega, by omega⟩, enc_LE i_7 (by omega) (Or.inr i_11), rfl, rfl⟩, by rw [ht]; exact hP.sub [0] rfl, hD.sub [0] (by decide +kernel) rfl⟩, hS.F ht⟩) hS.2.2 dX8_endOf_63
          ·
            exact absurd c_14 (by decide +kernel)
  ·
    have hJ9 := g5_same hP hk1
    clear hP hPc hDc hFc ht hvm hz1 hk1 hP1 hD1
    have hP := hJ9
    clear hJ9
    refine lv_if_eq (tgt := 33) hx hb dX8_endOf_10 (by decide +kernel) (fun c_15 => ?_) (fun c_15 => ?_)
    ·
      refine lv_aload_n hx hb dX8_endOf_33 rfl (lv_at hl 1 rfl) ?_
      refine lv_iload_n hx hb dX8_endOf_34 rfl (lv_at hl 2 rfl) ?_
      refine va_iald hx hb hK hP 0 0 rfl rfl (i := p_a) (vp_in_iff.mpr ⟨by omega, by omega⟩) dX8_endOf_35 ?_
      obtain ⟨hPc, hDc, hFc⟩ := g5_sub3 (wc := []) hP hD hS hA [] (by decide +kernel) rfl
      refine va_calli (va_runS (As := [.int (f_x p_a.toNatClampNeg)]) (rest := []) ⟨hx, hb, hml, hown, hts⟩ (k_digit l G H.size (f_x p_a.toNatClampNeg)) (va_cwS 1 hts gS_X8_25 rfl rfl rfl hs_X8_isDigit ⟨Nat.le_of_ble_eq_true rfl, Nat.le_of_ble_eq_true rfl⟩) (g5_preS hPc hK hDc hN hT hS hFc) rfl rfl hl.1 rfl (lv_room (Nat.le_of_ble_eq_true rfl)) dX8_endOf_36 ⟨Nat.le_of_ble_eq_true rfl, Nat.le_of_ble_eq_true rfl⟩) hS (fun q _ h => hFc q h) hFc (fun r u t H locs ht hvm hw hB hz1 hk1 hS => ?_)
      obtain ⟨hP1, hD1⟩ := hB
      have hP1 := g5_ht ht hP1
      rcases hw with ⟨(i_16 : 48 ≤ (f_x p_a.toNatClampNeg).toInt ∧ (f_x p_a.toNatClampNeg).toInt ≤ 57), rfl, rfl⟩ | ⟨(i_17 : (f_x p_a.toNatClampNeg).toInt < 48 ∨ 57 < (f_x p_a.toNatClampNeg).toInt), rfl, rfl⟩
      ·
        have hJ9 := g5_same hP hk1
        clear hP hPc hDc hFc ht hvm hz1 hk1 hP1 hD1
        have hP := hJ9
        clear hJ9
        refine lv_if_eq (tgt := 62) hx hb dX8_endOf_39 (by decide +kernel) (fun c_18 => ?_) (fun c_18 => ?_)
        ·
          exact absurd c_18 (by decide +kernel)
        ·
          refine g5_loop (α := (Int32)) (fun (k_n : (Int32)) (ls : Array Slot) (H : Heap) (locs : List Loc) => lv_has ls 4 [(3, .int k_n), (0, .ref a_x), (1, .int p_a), (2, .int p_n)] ∧ va_P G.1 vwCl [(a_x, (arI G 400 f_x))] H ∧ va_D A [(a_x, (arI G 400 f_x))] ∧ va_S A s.heap H locs ∧ (0 ≤ k_n.toInt ∧ k_n.toInt ≤ 400) ∧ (p_a.toInt < k_n.toInt ∧ k_n.toInt ≤ p_n.toInt) ∧ (runT bDg f_x p_n.toInt.toNat k_n.toInt.toNat = enT f_x p_n.toInt.toNat p_a.toInt.toNat)) (fun (k_n : (Int32)) => Int.toNat (400 - k_n.toInt)) (p_a + 1) ⟨lv_sub hl [0, 1, 2, 3] rfl, hP, hD, hS, ⟨by omega, by omega⟩, ⟨by omega, by omega⟩, enc_D0 (by omega) (by omega) i_16 (by omega)⟩ ?_
          rintro k_n ls H locs ⟨hl, hP, hD, hS, (i_19 : 0 ≤ k_n.toInt ∧ k_n.toInt ≤ 400), (i_20 : p_a.toInt < k_n.toInt ∧ k_n.toInt ≤ p_n.toInt), (i_21 : runT bDg f_x p_n.toInt.toNat k_n.toInt.toNat = enT f_x p_n.toInt.toNat p_a.toInt.toNat)⟩ ih_42_22
          replace hl : lv_has ls 4 [(3, .int k_n), (0, .ref a_x), (1, .int p_a), (2, .int p_n)] := hl
          refine g5_rs [(a_x, (arI G 400 f_x))] hP hD ?_
          clear hP hD
          intro hP hD
          refine lv_iload_n hx hb dX8_endOf_42 rfl (lv_at hl 0 rfl) ?_
          refine lv_iload_n hx hb dX8_endOf_43 rfl (lv_at hl 3 rfl) ?_
          refine lv_icmp_ge (tgt := 62) hx hb dX8_endOf_44 (by decide +kernel) (fun c_23 => ?_) (fun c_23 => ?_)
          ·
            have i_23 : k_n.toInt ≥ p_n.toInt := g5_ge (a := k_n.toInt) (b := p_n.toInt) rfl rfl c_23
            refine lv_iload_n hx hb dX8_endOf_62 rfl (lv_at hl 0 rfl) ?_
            exact W.iret (v := k_n) hx hb hr (fun t ht hW => ⟨⟨k_n, [(a_x, (arI G 400 f_x))], rfl, ⟨k_n, ⟨by omega, by omega⟩, enc_DE i_21 (by omega) (Or.inl (by omega)), rfl, rfl⟩, by rw [ht]; exact hP.sub [0] rfl, hD.sub [0] (by decide +kernel) rfl⟩, hS.F ht⟩) hS.2.2 dX8_endOf_63
          ·
            have i_23 : k_n.toInt < p_n.toInt := g5_geN (a := k_n.toInt) (b := p_n.toInt) rfl rfl c_23
            refine lv_aload_n hx hb dX8_endOf_47 rfl (lv_at hl 1 rfl) ?_
            refine lv_iload_n hx hb dX8_endOf_48 rfl (lv_at hl 0 rfl) ?_
            refine va_iald hx hb hK hP 0 0 rfl rfl (i := k_n) (vp_in_iff.mpr ⟨by omega, by omega⟩) dX8_endOf_49 ?_
            obtain ⟨hPc, hDc, hFc⟩ := g5_sub3 (wc := []) hP hD hS hA [] (by decide +kernel) rfl
            refine va_calli (va_runS (As := [.int (f_x k_n.toNatClampNeg)]) (rest := []) ⟨hx, hb, hml, hown, hts⟩ (k_digit l G H.size (f_x k_n.toNatClampNeg)) (va_cwS 1 hts gS_X8_25 rfl rfl rfl hs_X8_isDigit ⟨Nat.le_of_ble_eq_true rfl, Nat.le_of_ble_eq_true rfl⟩) (g5_preS hPc hK hDc hN hT hS hFc) rfl rfl hl.1 rfl (lv_room (Nat.le_of_ble_eq_true rfl)) dX8_endOf_50 ⟨Nat.le_of_ble_eq_true rfl, Nat.le_of_ble_eq_true rfl⟩) hS (fun q _ h => hFc q h) hFc (fun r u t H locs ht hvm hw hB hz1 hk1 hS => ?_)
            obtain ⟨hP1, hD1⟩ := hB
            have hP1 := g5_ht ht hP1
            rcases hw with ⟨(i_24 : 48 ≤ (f_x k_n.toNatClampNeg).toInt ∧ (f_x k_n.toNatClampNeg).toInt ≤ 57), rfl, rfl⟩ | ⟨(i_25 : (f_x k_n.toNatClampNeg).toInt < 48 ∨ 57 < (f_x k_n.toNatClampNeg).toInt), rfl, rfl⟩
            ·
              have hJ9 := g5_same hP hk1
              clear hP hPc hDc hFc ht hvm hz1 hk1 hP1 hD1
              have hP := hJ9
              clear hJ9
              refine lv_if_eq (tgt := 62) hx hb dX8_endOf_53 (by decide +kernel) (fun c_26 => ?_) (fun c_26 => ?_)
              ·
                exact absurd c_26 (by decide +kernel)
              ·
                refine lv_iinc (v := (k_n + 1)) (lv' := [(3, .int (k_n + 1)), (0, .ref a_x), (1, .int p_a), (2, .int p_n)]) hx hb dX8_endOf_56 hl (k := 0) rfl rfl (by decide +kernel) rfl ?_
                clear hl
                intro ls hl
                have t_27 : (k_n + 1).toInt = k_n.toInt + 1 := g5_iadd (a := k_n.toInt) (b := 1) rfl (by decide +kernel) (by omega) (by omega)
                refine lv_goto (tgt := 42) hx hb dX8_endOf_59 (by decide +kernel) ?_
                exact ih_42_22 (k_n + 1) ls H locs (show Int.toNat (400 - (k_n + 1).toInt) < Int.toNat (400 - k_n.toInt) from g_up (show k_n.toInt < (k_n + 1).toInt by omega) (show k_n.toInt < 400 by omega)) ⟨lv_sub hl [0, 1, 2, 3] rfl, hP, hD, hS, ⟨by omega, by omega⟩, ⟨by omega, by omega⟩, enc_DS i_21 (by omega) (by omega) i_24 (by omega)⟩
            ·
              have hJ9 := g5_same hP hk1
              clear hP hPc hDc hFc ht hvm hz1 hk1 hP1 hD1
              have hP := hJ9
              clear hJ9
              refine lv_if_eq (tgt := 62) hx hb dX8_endOf_53 (by decide +kernel) (fun c_28 => ?_) (fun c_28 => ?_)
              ·
                refine lv_iload_n hx hb dX8_endOf_62 rfl (lv_at hl 0 rfl) ?_
                exact W.iret (v := k_n) hx hb hr (fun t ht hW => ⟨⟨k_n, [(a_x, (arI G 400 f_x))], rfl, ⟨k_n, ⟨by omega, by omega⟩, enc_DE i_21 (by omega) (Or.inr i_25), rfl, rfl⟩, by rw [ht]; exact hP.sub [0] rfl, hD.sub [0] (by decide +kernel) rfl⟩, hS.F ht⟩) hS.2.2 dX8_endOf_63
              ·
                exact absurd c_28 (by decide +kernel)
      ·
        have hJ9 := g5_same hP hk1
        clear hP hPc hDc hFc ht hvm hz1 hk1 hP1 hD1
        have hP := hJ9
        clear hJ9
        refine lv_if_eq (tgt := 62) hx hb dX8_endOf_39 (by decide +kernel) (fun c_29 => ?_) (fun c_29 => ?_)
        ·
          refine lv_iload_n hx hb dX8_endOf_62 rfl (lv_at hl 0 rfl) ?_
          exact W.iret (v := (p_a + 1)) hx hb hr (fun t ht hW => ⟨⟨(p_a + 1), [(a_x, (arI G 400 f_x))], rfl, ⟨(p_a + 1), ⟨by omega, by omega⟩, enc_N (by omega) i_3 i_17 (by omega), rfl, rfl⟩, by rw [ht]; exact hP.sub [0] rfl, hD.sub [0] (by decide +kernel) rfl⟩, hS.F ht⟩) hS.2.2 dX8_endOf_63
        ·
          exact absurd c_29 (by decide +kernel)
    ·
      exact absurd c_15 (by decide +kernel)
set_option maxHeartbeats 4000000 in
set_option maxRecDepth 100000 in
theorem s_char1X (l : Launch) (G : g5_G) (a_q a_v : Nat) (sz : Nat) (p_i : Int32) (h_p_i : 0 ≤ p_i.toInt ∧ p_i.toInt ≤ 73) : Met l yJ1_charAt_3b067 (wsG yJ1_charAt_3b067 cJ1_charAt_3b067 2 (some .char)) ({ frames := 2, cells := 0, slots := 0, locals := 43 }) (va_Pc [.ref a_v, .int p_i] (g5_PK G a_q a_v [] sz)) (va_Qi (fun (r : Int32) (u : va_W) => (∃ (o_r : Int32), (narrow .char (.int o_r) = .int o_r) ∧ (o_r = g5_by.getD p_i.toNatClampNeg 0) ∧ (r = o_r) ∧ (u = []))) (g5_B G (va_A [] sz)) (va_A [] sz)) 0 0 (va_A [] sz) := by
  refine Met.ofW (cc := cJ1_charAt_3b067) (maxL := 2) (ret := (some .char)) (by decide +kernel) rfl ?_
  intro p e s m args below meth c s₁ B hml hv
  obtain ⟨rfl, ⟨hsz, hP, hK, hD0, hN, hT⟩, hRK, hVK⟩ := hv
  have hx := B.exec
  have hb := B.bytes
  have hr := B.returns
  have hts : ∀ w ∈ tblG, w.before _ s = true := fun w h => atoms_spec (ws := (wsG yJ1_charAt_3b067 cJ1_charAt_3b067 2 (some .char))) B.pre w (List.mem_cons_of_mem _ h)
  have hown : s.vm.findClass RJ1 = some m.cls := findClass_of_methodNamed B.named
  have hlocks := B.notSynchronized
  subst hsz
  have hD := hD0.self (sz := s.heap.size)
  generalize hAe : va_A [] s.heap.size = A at hD hT hVK ⊢
  have hA : ∀ q : Nat, s.heap.size ≤ q → A q := fun q h => by rw [← hAe]; exact Or.inr h
  have hS : va_S A s.heap s.heap [] := va_S.rf
  replace hP : va_P G.1 vwCl [] s.heap := hP
  have hl := lv_entry ([.ref a_v, .int p_i]) (n := 2) (Nat.le_of_ble_eq_true rfl)
  rw [lg_entry_eq]
  generalize (lg_sl ([.ref a_v, .int p_i]) ++ List.replicate (2 - (lg_sl ([.ref a_v, .int p_i])).length) Slot.unset).toArray = ls at hl ⊢
  replace hl : lv_has ls 2 [(0, .ref a_v), (1, .int p_i)] := hl
  obtain ⟨tH0, tL0, tK0, tV0, tF, hZH0, hTH0, hZL0, hTL0, hRK0, hVK0, hZC, hZF⟩ := id hT
  refine lv_iload_n hx hb dJ1_charAt_3b067_0 rfl (lv_at hl 1 rfl) ?_
  refine lv_aload_n hx hb dJ1_charAt_3b067_1 rfl (lv_at hl 0 rfl) ?_
  refine va_tlen hx hb (hVK.1 0 (by decide +kernel)).2.2.2 hS (v := 74) (by decide +kernel) dJ1_charAt_3b067_2 ?_
  obtain ⟨hPc, hDc, hFc⟩ := g5_sub3 (wc := []) hP hD hS hA [] (by decide +kernel) rfl
  refine va_callv (va_runS (As := [.int p_i, .int 74]) (rest := []) ⟨hx, hb, hml, hown, hts⟩ (s_check l G s.heap.size p_i h_p_i) (va_cwS 2 hts gS_J1_9 rfl rfl rfl hs_J0_checkIndex_df160 ⟨Nat.le_of_ble_eq_true rfl, Nat.le_of_ble_eq_true rfl⟩) (g5_preS hPc hK hDc hN hT hS hFc) rfl rfl hl.1 rfl (lv_room (Nat.le_of_ble_eq_true rfl)) dJ1_charAt_3b067_3 ⟨Nat.le_of_ble_eq_true rfl, Nat.le_of_ble_eq_true rfl⟩) hS (fun q _ h => hFc q h) hFc (fun u t H locs ht hvm hw hB hz1 hk1 hS => ?_)
  obtain ⟨hP1, hD1⟩ := hB
  have hP1 := g5_ht ht hP1
  obtain rfl := hw
  have hJ9 := g5_same hP hk1
  clear hP hPc hDc hFc ht hvm hz1 hk1 hP1 hD1
  have hP := hJ9
  clear hJ9
  refine W.eq (g2 := F0 m 6 ls []) rfl ?_
  refine lv_aload_n hx hb dJ1_charAt_3b067_6 rfl (lv_at hl 0 rfl) ?_
  refine lv_iload_n hx hb dJ1_charAt_3b067_7 rfl (lv_at hl 1 rfl) ?_
  refine va_tb hx hb (hVK.1 0 (by decide +kernel)).2.2.2 hS (i := p_i) (show vp_in p_i 74 from vp_in_iff.mpr ⟨by omega, by omega⟩) (v := .int (g5_by.getD p_i.toNatClampNeg 0)) rfl dJ1_charAt_3b067_8 ?_
  refine lv_sipush (v := 255) hx hb dJ1_charAt_3b067_9 (by decide +kernel) ?_
  refine lv_iand hx hb dJ1_charAt_3b067_12 ?_
  refine W.eq (g2 := F0 m 13 ls [.int ((g5_by.getD p_i.toNatClampNeg 0) &&& 255)]) rfl ?_
  refine lv_i2c (v := ((((g5_by.getD p_i.toNatClampNeg 0) &&& 255).toUInt32 % 65536).toInt32)) hx hb dJ1_charAt_3b067_13 rfl ?_
  exact W.zret (v := ((((g5_by.getD p_i.toNatClampNeg 0) &&& 255).toUInt32 % 65536).toInt32)) hx hb hr (g_char _) (fun t ht hW => ⟨⟨((((g5_by.getD p_i.toNatClampNeg 0) &&& 255).toUInt32 % 65536).toInt32), [], rfl, ⟨((((g5_by.getD p_i.toNatClampNeg 0) &&& 255).toUInt32 % 65536).toInt32), g_char _, by_char _ (by have zz := g5_clamp p_i; omega), rfl, rfl⟩, by rw [ht]; exact hP.sub [] rfl, hD.sub [] (by decide +kernel) rfl⟩, hS.F ht⟩) hS.2.2 dJ1_charAt_3b067_14
set_option maxHeartbeats 4000000 in
set_option maxRecDepth 100000 in
theorem s_charAtX (l : Launch) (G : g5_G) (a_q a_v : Nat) (sz : Nat) (p_i : Int32) (h_p_i : 0 ≤ p_i.toInt ∧ p_i.toInt ≤ 73) : Met l yJ0_charAt_5068e (wsG yJ0_charAt_5068e cJ0_charAt_5068e 2 (some .char)) ({ frames := 3, cells := 0, slots := 0, locals := 64 }) (va_Pc [.ref a_q, .int p_i] (g5_PK G a_q a_v [] sz)) (va_Qi (fun (r : Int32) (u : va_W) => (∃ (o_r : Int32), (narrow .char (.int o_r) = .int o_r) ∧ (o_r = g5_by.getD p_i.toNatClampNeg 0) ∧ (r = o_r) ∧ (u = []))) (g5_B G (va_A [] sz)) (va_A [] sz)) 0 0 (va_A [] sz) := by
  refine Met.ofW (cc := cJ0_charAt_5068e) (maxL := 2) (ret := (some .char)) (by decide +kernel) rfl ?_
  intro p e s m args below meth c s₁ B hml hv
  obtain ⟨rfl, ⟨hsz, hP, hK, hD0, hN, hT⟩, hRK, hVK⟩ := hv
  have hx := B.exec
  have hb := B.bytes
  have hr := B.returns
  have hts : ∀ w ∈ tblG, w.before _ s = true := fun w h => atoms_spec (ws := (wsG yJ0_charAt_5068e cJ0_charAt_5068e 2 (some .char))) B.pre w (List.mem_cons_of_mem _ h)
  have hown : s.vm.findClass RJ0 = some m.cls := findClass_of_methodNamed B.named
  have hlocks := B.notSynchronized
  subst hsz
  have hD := hD0.self (sz := s.heap.size)
  generalize hAe : va_A [] s.heap.size = A at hD hT hVK ⊢
  have hA : ∀ q : Nat, s.heap.size ≤ q → A q := fun q h => by rw [← hAe]; exact Or.inr h
  have hS : va_S A s.heap s.heap [] := va_S.rf
  replace hP : va_P G.1 vwCl [] s.heap := hP
  have hl := lv_entry ([.ref a_q, .int p_i]) (n := 2) (Nat.le_of_ble_eq_true rfl)
  rw [lg_entry_eq]
  generalize (lg_sl ([.ref a_q, .int p_i]) ++ List.replicate (2 - (lg_sl ([.ref a_q, .int p_i])).length) Slot.unset).toArray = ls at hl ⊢
  replace hl : lv_has ls 2 [(0, .ref a_q), (1, .int p_i)] := hl
  obtain ⟨tH0, tL0, tK0, tV0, tF, hZH0, hTH0, hZL0, hTL0, hRK0, hVK0, hZC, hZF⟩ := id hT
  refine lv_aload_n hx hb dJ0_charAt_5068e_0 rfl (lv_at hl 0 rfl) ?_
  obtain ⟨hPc, hDc, hFc⟩ := g5_sub3 (wc := []) hP hD hS hA [] (by decide +kernel) rfl
  refine va_calli (va_runV (As := []) (rest := []) ⟨hx, hb, hml, hown, hts⟩ (s_latin l G a_q a_v s.heap.size) (cwV 0 hts gV_J0_492 rfl rfl rfl hv_J0_isLatin1_aae02 ⟨Nat.le_of_ble_eq_true rfl, Nat.le_of_ble_eq_true rfl⟩) (g5_preVK hPc hK hDc hN hT hS hFc hRK hVK) rfl rfl hl.1 rfl (lv_room (Nat.le_of_ble_eq_true rfl)) dJ0_charAt_5068e_1 ⟨Nat.le_of_ble_eq_true rfl, Nat.le_of_ble_eq_true rfl⟩) hS (fun q _ h => hFc q h) hFc (fun r u t H locs ht hvm hw hB hz1 hk1 hS => ?_)
  obtain ⟨hP1, hD1⟩ := hB
  have hP1 := g5_ht ht hP1
  obtain ⟨rfl, rfl⟩ := hw
  have hJ9 := g5_same hP hk1
  clear hP hPc hDc hFc ht hvm hz1 hk1 hP1 hD1
  have hP := hJ9
  clear hJ9
  refine lv_if_eq (tgt := 16) hx hb dJ0_charAt_5068e_4 (by decide +kernel) (fun c_1 => ?_) (fun c_1 => ?_)
  ·
    exact absurd c_1 (by decide +kernel)
  ·
    refine lv_aload_n hx hb dJ0_charAt_5068e_7 rfl (lv_at hl 0 rfl) ?_
    refine vk_getf hx hb (hVK.1 0 (by decide +kernel)).2.2.1 hS hown (hts _ fl_J0_9) (fun _ h9 => h9) dJ0_charAt_5068e_8 ?_
    refine g5_tv (v := .ref a_v) rfl ?_
    refine lv_iload_n hx hb dJ0_charAt_5068e_11 rfl (lv_at hl 1 rfl) ?_
    obtain ⟨hPc, hDc, hFc⟩ := g5_sub3 (wc := []) hP hD hS hA [] (by decide +kernel) rfl
    refine va_calli (va_runS (As := [.ref a_v, .int p_i]) (rest := []) ⟨hx, hb, hml, hown, hts⟩ (s_char1X l G a_q a_v H.size p_i h_p_i) (va_cwS 2 hts gS_J0_495 rfl rfl rfl hs_J1_charAt_3b067 ⟨Nat.le_of_ble_eq_true rfl, Nat.le_of_ble_eq_true rfl⟩) (g5_preSK hPc hK hDc hN hT hS hFc hRK hVK) rfl rfl hl.1 rfl (lv_room (Nat.le_of_ble_eq_true rfl)) dJ0_charAt_5068e_12 ⟨Nat.le_of_ble_eq_true rfl, Nat.le_of_ble_eq_true rfl⟩) hS (fun q _ h => hFc q h) hFc (fun r u t H locs ht hvm hw hB hz1 hk1 hS => ?_)
    obtain ⟨hP1, hD1⟩ := hB
    have hP1 := g5_ht ht hP1
    obtain ⟨z4, (i_2 : narrow .char (.int z4) = .int z4), (i_3 : z4 = g5_by.getD p_i.toNatClampNeg 0), y5, rfl⟩ := hw
    have hJ9 := g5_same hP hk1
    clear hP hPc hDc hFc ht hvm hz1 hk1 hP1 hD1
    have hP := hJ9
    clear hJ9
    refine g5_ti (v := z4) y5 ?_
    refine W.eq (g2 := F0 m 15 ls [.int z4]) rfl ?_
    exact W.zret (v := z4) hx hb hr i_2 (fun t ht hW => ⟨⟨z4, [], rfl, ⟨z4, i_2, i_3, rfl, rfl⟩, by rw [ht]; exact hP.sub [] rfl, hD.sub [] (by decide +kernel) rfl⟩, hS.F ht⟩) hS.2.2 dJ0_charAt_5068e_15
set_option maxHeartbeats 4000000 in
set_option maxRecDepth 100000 in
theorem k_wordX (l : Launch) (G : g5_G) (a_x : Nat) (sz : Nat) (p_a : Int32) (p_t : Int32) (f_x : Nat → Int32) (h_p_a : 0 ≤ p_a.toInt ∧ p_a.toInt ≤ 400) (h_p_t : 0 ≤ p_t.toInt ∧ p_t.toInt ≤ 400) : Met l yX8_wordIn (wsG yX8_wordIn cX8_wordIn 8 (some .int)) ({ frames := 4, cells := 0, slots := 0, locals := 85 }) (va_Pc [.ref a_x, .int p_a, .int p_t] (g5_P G [(a_x, (arI G 400 f_x))] sz)) (va_Qi (fun (r : Int32) (u : va_W) => (∃ (o_r : Int32), (-1 ≤ o_r.toInt ∧ o_r.toInt ≤ 74) ∧ (o_r.toInt = wdT f_x p_a.toInt.toNat p_t.toInt.toNat) ∧ (r = o_r) ∧ (u = [(a_x, (arI G 400 f_x))]))) (g5_B G (va_A [(a_x, (arI G 400 f_x))] sz)) (va_A [(a_x, (arI G 400 f_x))] sz)) 0 0 (va_A [(a_x, (arI G 400 f_x))] sz) := by
  refine Met.ofW (cc := cX8_wordIn) (maxL := 8) (ret := (some .int)) (by decide +kernel) rfl ?_
  intro p e s m args below meth c s₁ B hml hv
  obtain ⟨rfl, hsz, hP, hK, hD0, hN, hT⟩ := hv
  have hx := B.exec
  have hb := B.bytes
  have hr := B.returns
  have hts : ∀ w ∈ tblG, w.before _ s = true := fun w h => atoms_spec (ws := (wsG yX8_wordIn cX8_wordIn 8 (some .int))) B.pre w (List.mem_cons_of_mem _ h)
  have hown : s.vm.findClass RX8 = some m.cls := findClass_of_methodNamed B.named
  have hlocks := B.notSynchronized
  subst hsz
  have hD := hD0.self (sz := s.heap.size)
  generalize hAe : va_A [(a_x, (arI G 400 f_x))] s.heap.size = A at hD hT ⊢
  have hA : ∀ q : Nat, s.heap.size ≤ q → A q := fun q h => by rw [← hAe]; exact Or.inr h
  have hS : va_S A s.heap s.heap [] := va_S.rf
  replace hP : va_P G.1 vwCl [(a_x, (arI G 400 f_x))] s.heap := hP
  have hl := lv_entry ([.ref a_x, .int p_a, .int p_t]) (n := 8) (Nat.le_of_ble_eq_true rfl)
  rw [lg_entry_eq]
  generalize (lg_sl ([.ref a_x, .int p_a, .int p_t]) ++ List.replicate (8 - (lg_sl ([.ref a_x, .int p_a, .int p_t])).length) Slot.unset).toArray = ls at hl ⊢
  replace hl : lv_has ls 8 [(0, .ref a_x), (1, .int p_a), (2, .int p_t)] := hl
  obtain ⟨tH, tL, tK, tV, tF, hZH, hTH, hZL, hTL, hRK, hVK, hZC, hZF⟩ := id hT
  refine lv_iconst (v := 0) hx hb dX8_wordIn_0 (by decide +kernel) ?_
  refine lv_istore_n (lv' := [(3, .int 0), (0, .ref a_x), (1, .int p_a), (2, .int p_t)]) hx hb dX8_wordIn_1 rfl hl (by decide +kernel) rfl ?_
  clear hl
  intro ls hl
  refine lv_iload_n hx hb dX8_wordIn_2 rfl (lv_at hl 2 rfl) ?_
  refine lv_istore (lv' := [(4, .int p_a), (3, .int 0), (0, .ref a_x), (1, .int p_a), (2, .int p_t)]) hx hb dX8_wordIn_3 hl (by decide +kernel) rfl ?_
  clear hl
  intro ls hl
  refine W.eq (g2 := F0 m 5 ls []) rfl ?_
  refine lv_iconst (v := 1) hx hb dX8_wordIn_5 (by decide +kernel) ?_
  refine lv_istore (lv' := [(5, .int 1), (4, .int p_a), (3, .int 0), (0, .ref a_x), (1, .int p_a), (2, .int p_t)]) hx hb dX8_wordIn_6 hl (by decide +kernel) rfl ?_
  clear hl
  intro ls hl
  refine lv_iconst (v := 0) hx hb dX8_wordIn_8 (by decide +kernel) ?_
  refine lv_istore (lv' := [(6, .int 0), (5, .int 1), (4, .int p_a), (3, .int 0), (0, .ref a_x), (1, .int p_a), (2, .int p_t)]) hx hb dX8_wordIn_9 hl (by decide +kernel) rfl ?_
  clear hl
  intro ls hl
  refine g5_loop (α := (Int32) × (Int32) × (Int32) × (Int32)) (fun (q : (Int32) × (Int32) × (Int32) × (Int32)) (ls : Array Slot) (H : Heap) (locs : List Loc) => match q with | (k_w, k_a, k_s, k_i) => lv_has ls 8 [(3, .int k_w), (4, .int k_a), (5, .int k_s), (6, .int k_i), (0, .ref a_x), (1, .int p_a), (2, .int p_t)] ∧ va_P G.1 vwCl [(a_x, (arI G 400 f_x))] H ∧ va_D A [(a_x, (arI G 400 f_x))] ∧ va_S A s.heap H locs ∧ (0 ≤ k_w.toInt ∧ k_w.toInt ≤ 74) ∧ (0 ≤ k_a.toInt ∧ k_a.toInt ≤ 1000) ∧ (0 ≤ k_s.toInt ∧ k_s.toInt ≤ 1) ∧ (0 ≤ k_i.toInt ∧ k_i.toInt ≤ 74) ∧ (k_a.toInt ≤ p_a.toInt + k_i.toInt) ∧ (k_w.toInt ≤ k_i.toInt) ∧ (WCI f_x p_a p_t k_w k_a k_s k_i)) (fun (q : (Int32) × (Int32) × (Int32) × (Int32)) => match q with | (k_w, k_a, k_s, k_i) => Int.toNat (74 - k_i.toInt)) (0, p_a, 1, 0) ⟨lv_sub hl [3, 2, 1, 0, 4, 5, 6] rfl, hP, hD, hS, ⟨by decide, by decide⟩, ⟨by omega, by omega⟩, ⟨by decide, by decide⟩, ⟨by decide, by decide⟩, by have z0 : (0 : Int32).toInt = 0 := (by decide +kernel); omega, by have z0 : (0 : Int32).toInt = 0 := (by decide +kernel); omega, wci_0 (by decide +kernel) rfl (by decide +kernel) (by decide +kernel)⟩ ?_
  rintro ⟨k_w, k_a, k_s, k_i⟩ ls H locs ⟨hl, hP, hD, hS, (i_1 : 0 ≤ k_w.toInt ∧ k_w.toInt ≤ 74), (i_2 : 0 ≤ k_a.toInt ∧ k_a.toInt ≤ 1000), (i_3 : 0 ≤ k_s.toInt ∧ k_s.toInt ≤ 1), (i_4 : 0 ≤ k_i.toInt ∧ k_i.toInt ≤ 74), (i_5 : k_a.toInt ≤ p_a.toInt + k_i.toInt), (i_6 : k_w.toInt ≤ k_i.toInt), (i_7 : WCI f_x p_a p_t k_w k_a k_s k_i)⟩ ih_11_8
  replace hl : lv_has ls 8 [(3, .int k_w), (4, .int k_a), (5, .int k_s), (6, .int k_i), (0, .ref a_x), (1, .int p_a), (2, .int p_t)] := hl
  refine g5_rs [(a_x, (arI G 400 f_x))] hP hD ?_
  clear hP hD
  intro hP hD
  refine lv_iload hx hb dX8_wordIn_11 (lv_at hl 3 rfl) ?_
  refine va_ldcS hx hb hown hRK dX8_wordIn_13 ?_
  obtain ⟨hPc, hDc, hFc⟩ := g5_sub3 (wc := []) hP hD hS hA [] (by decide +kernel) rfl
  refine va_calli (va_runV (As := []) (rest := [.int k_i]) ⟨hx, hb, hml, hown, hts⟩ (s_length l G tK tV H.size) (cwV 0 hts gV_X8_43 rfl rfl rfl hv_J0_length_8abf5 ⟨Nat.le_of_ble_eq_true rfl, Nat.le_of_ble_eq_true rfl⟩) (g5_preVK hPc hK hDc hN hT hS hFc hRK hVK) rfl rfl hl.1 rfl (lv_room (Nat.le_of_ble_eq_true rfl)) dX8_wordIn_15 ⟨Nat.le_of_ble_eq_true rfl, Nat.le_of_ble_eq_true rfl⟩) hS (fun q _ h => hFc q h) hFc (fun r u t H locs ht hvm hw hB hz1 hk1 hS => ?_)
  obtain ⟨hP1, hD1⟩ := hB
  have hP1 := g5_ht ht hP1
  obtain ⟨rfl, rfl⟩ := hw
  have hJ9 := g5_same hP hk1
  clear hP hPc hDc hFc ht hvm hz1 hk1 hP1 hD1
  have hP := hJ9
  clear hJ9
  refine lv_icmp_ge (tgt := 98) hx hb dX8_wordIn_18 (by decide +kernel) (fun c_9 => ?_) (fun c_9 => ?_)
  ·
    have i_9 : k_i.toInt ≥ 74 := g5_ge (a := k_i.toInt) (b := 74) rfl (by decide +kernel) c_9
    refine lv_iconst (v := (-1)) hx hb dX8_wordIn_98 (by decide +kernel) ?_
    exact W.iret (v := (-1)) hx hb hr (fun t ht hW => ⟨⟨(-1), [(a_x, (arI G 400 f_x))], rfl, ⟨(-1), ⟨by have zc_o_r : ((-1) : Int32).toInt = (-1) := (by decide +kernel); omega, by have zc_o_r : ((-1) : Int32).toInt = (-1) := (by decide +kernel); omega⟩, (show (-1 : Int32).toInt = -1 by decide).trans (wci_end i_7 (by omega)).symm, rfl, rfl⟩, by rw [ht]; exact hP.sub [0] rfl, hD.sub [0] (by decide +kernel) rfl⟩, hS.F ht⟩) hS.2.2 dX8_wordIn_99
  ·
    have i_9 : k_i.toInt < 74 := g5_geN (a := k_i.toInt) (b := 74) rfl (by decide +kernel) c_9
    refine va_ldcS hx hb hown hRK dX8_wordIn_21 ?_
    refine lv_iload hx hb dX8_wordIn_23 (lv_at hl 3 rfl) ?_
    obtain ⟨hPc, hDc, hFc⟩ := g5_sub3 (wc := []) hP hD hS hA [] (by decide +kernel) rfl
    refine va_calli (va_runV (As := [.int k_i]) (rest := []) ⟨hx, hb, hml, hown, hts⟩ (s_charAtX l G tK tV H.size k_i ⟨by omega, by omega⟩) (cwV 1 hts gV_X8_49 rfl rfl rfl hv_J0_charAt_5068e ⟨Nat.le_of_ble_eq_true rfl, Nat.le_of_ble_eq_true rfl⟩) (g5_preVK hPc hK hDc hN hT hS hFc hRK hVK) rfl rfl hl.1 rfl (lv_room (Nat.le_of_ble_eq_true rfl)) dX8_wordIn_25 ⟨Nat.le_of_ble_eq_true rfl, Nat.le_of_ble_eq_true rfl⟩) hS (fun q _ h => hFc q h) hFc (fun r u t H locs ht hvm hw hB hz1 hk1 hS => ?_)
    obtain ⟨hP1, hD1⟩ := hB
    have hP1 := g5_ht ht hP1
    obtain ⟨z12, (i_10 : narrow .char (.int z12) = .int z12), (i_11 : z12 = g5_by.getD k_i.toNatClampNeg 0), y13, rfl⟩ := hw
    have hJ9 := g5_same hP hk1
    clear hP hPc hDc hFc ht hvm hz1 hk1 hP1 hD1
    have hP := hJ9
    clear hJ9
    refine g5_ti (v := z12) y13 ?_
    refine lv_istore (lv' := [(7, .int z12), (3, .int k_w), (4, .int k_a), (5, .int k_s), (6, .int k_i), (0, .ref a_x), (1, .int p_a), (2, .int p_t)]) hx hb dX8_wordIn_28 hl (by decide +kernel) rfl ?_
    clear hl
    intro ls hl
    refine W.eq (g2 := F0 m 30 ls []) rfl ?_
    refine lv_iload hx hb dX8_wordIn_30 (lv_at hl 0 rfl) ?_
    refine lv_bipush (v := 32) hx hb dX8_wordIn_32 (by decide +kernel) ?_
    refine lv_icmp_eq (tgt := 70) hx hb dX8_wordIn_34 (by decide +kernel) (fun c_14 => ?_) (fun c_14 => ?_)
    ·
      have i_14 : z12.toInt = 32 := g5_eq (a := z12.toInt) (b := 32) rfl (by decide +kernel) c_14
      refine lv_iload hx hb dX8_wordIn_70 (lv_at hl 3 rfl) ?_
      refine lv_if_eq (tgt := 83) hx hb dX8_wordIn_72 (by decide +kernel) (fun c_15 => ?_) (fun c_15 => ?_)
      ·
        have i_15 : k_s.toInt = 0 := g5_eq (a := k_s.toInt) (b := 0) rfl (by decide +kernel) c_15
        refine lv_iinc (v := (k_w + 1)) (lv' := [(3, .int (k_w + 1)), (7, .int z12), (4, .int k_a), (5, .int k_s), (6, .int k_i), (0, .ref a_x), (1, .int p_a), (2, .int p_t)]) hx hb dX8_wordIn_83 hl (k := 1) rfl rfl (by decide +kernel) rfl ?_
        clear hl
        intro ls hl
        have t_16 : (k_w + 1).toInt = k_w.toInt + 1 := g5_iadd (a := k_w.toInt) (b := 1) rfl (by decide +kernel) (by omega) (by omega)
        refine lv_iload_n hx hb dX8_wordIn_86 rfl (lv_at hl 6 rfl) ?_
        refine lv_istore (lv' := [(4, .int p_a), (3, .int (k_w + 1)), (7, .int z12), (5, .int k_s), (6, .int k_i), (0, .ref a_x), (1, .int p_a), (2, .int p_t)]) hx hb dX8_wordIn_87 hl (by decide +kernel) rfl ?_
        clear hl
        intro ls hl
        refine lv_iconst (v := 1) hx hb dX8_wordIn_89 (by decide +kernel) ?_
        refine W.eq (g2 := F0 m 90 ls [.int 1]) rfl ?_
        refine lv_istore (lv' := [(5, .int 1), (4, .int p_a), (3, .int (k_w + 1)), (7, .int z12), (6, .int k_i), (0, .ref a_x), (1, .int p_a), (2, .int p_t)]) hx hb dX8_wordIn_90 hl (by decide +kernel) rfl ?_
        clear hl
        intro ls hl
        refine lv_iinc (v := (k_i + 1)) (lv' := [(6, .int (k_i + 1)), (5, .int 1), (4, .int p_a), (3, .int (k_w + 1)), (7, .int z12), (0, .ref a_x), (1, .int p_a), (2, .int p_t)]) hx hb dX8_wordIn_92 hl (k := 4) rfl rfl (by decide +kernel) rfl ?_
        clear hl
        intro ls hl
        have t_17 : (k_i + 1).toInt = k_i.toInt + 1 := g5_iadd (a := k_i.toInt) (b := 1) rfl (by decide +kernel) (by omega) (by omega)
        refine lv_goto (tgt := 11) hx hb dX8_wordIn_95 (by decide +kernel) ?_
        exact ih_11_8 ((k_w + 1), p_a, 1, (k_i + 1)) ls H locs (show Int.toNat (74 - (k_i + 1).toInt) < Int.toNat (74 - k_i.toInt) from g_up (show k_i.toInt < (k_i + 1).toInt by omega) (show k_i.toInt < 74 by omega)) ⟨lv_sub hl [3, 2, 1, 0, 5, 6, 7] rfl, hP, hD, hS, ⟨by omega, by omega⟩, ⟨by omega, by omega⟩, ⟨by decide, by decide⟩, ⟨by omega, by omega⟩, by omega, by omega, wci_S i_7 (by first | omega | (unfold gNe at *; omega)) i_11 (by first | omega | (unfold gNe at *; omega)) (by first | omega | (unfold gNe at *; omega)) (by first | omega | (unfold gNe at *; omega)) (by first | omega | (unfold gNe at *; omega)) rfl (by decide +kernel) (by first | omega | (unfold gNe at *; omega))⟩
      ·
        have n_15 : gNe (k_s.toInt) (0) := g5_eqN (a := k_s.toInt) (b := 0) rfl (by decide +kernel) c_15
        have i_15 : k_s.toInt ≥ 1 := by have z := g5_eqN (a := k_s.toInt) (b := 0) (by rfl) (by decide +kernel) c_15; omega
        refine lv_iload hx hb dX8_wordIn_75 (lv_at hl 2 rfl) ?_
        refine lv_iload_n hx hb dX8_wordIn_77 rfl (lv_at hl 7 rfl) ?_
        refine lv_icmp_ne (tgt := 83) hx hb dX8_wordIn_78 (by decide +kernel) (fun c_18 => ?_) (fun c_18 => ?_)
        ·
          have n_18 : gNe (k_a.toInt) (p_t.toInt) := g5_ne (a := k_a.toInt) (b := p_t.toInt) rfl rfl c_18
          refine lv_iinc (v := (k_w + 1)) (lv' := [(3, .int (k_w + 1)), (7, .int z12), (4, .int k_a), (5, .int k_s), (6, .int k_i), (0, .ref a_x), (1, .int p_a), (2, .int p_t)]) hx hb dX8_wordIn_83 hl (k := 1) rfl rfl (by decide +kernel) rfl ?_
          clear hl
          intro ls hl
          have t_19 : (k_w + 1).toInt = k_w.toInt + 1 := g5_iadd (a := k_w.toInt) (b := 1) rfl (by decide +kernel) (by omega) (by omega)
          refine lv_iload_n hx hb dX8_wordIn_86 rfl (lv_at hl 6 rfl) ?_
          refine lv_istore (lv' := [(4, .int p_a), (3, .int (k_w + 1)), (7, .int z12), (5, .int k_s), (6, .int k_i), (0, .ref a_x), (1, .int p_a), (2, .int p_t)]) hx hb dX8_wordIn_87 hl (by decide +kernel) rfl ?_
          clear hl
          intro ls hl
          refine lv_iconst (v := 1) hx hb dX8_wordIn_89 (by decide +kernel) ?_
          refine W.eq (g2 := F0 m 90 ls [.int 1]) rfl ?_
          refine lv_istore (lv' := [(5, .int 1), (4, .int p_a), (3, .int (k_w + 1)), (7, .int z12), (6, .int k_i), (0, .ref a_x), (1, .int p_a), (2, .int p_t)]) hx hb dX8_wordIn_90 hl (by decide +kernel) rfl ?_
          clear hl
          intro ls hl
          refine lv_iinc (v := (k_i + 1)) (lv' := [(6, .int (k_i + 1)), (5, .int 1), (4, .int p_a), (3, .int (k_w + 1)), (7, .int z12), (0, .ref a_x), (1, .int p_a), (2, .int p_t)]) hx hb dX8_wordIn_92 hl (k := 4) rfl rfl (by decide +kernel) rfl ?_
          clear hl
          intro ls hl
          have t_20 : (k_i + 1).toInt = k_i.toInt + 1 := g5_iadd (a := k_i.toInt) (b := 1) rfl (by decide +kernel) (by omega) (by omega)
          refine lv_goto (tgt := 11) hx hb dX8_wordIn_95 (by decide +kernel) ?_
          exact ih_11_8 ((k_w + 1), p_a, 1, (k_i + 1)) ls H locs (show Int.toNat (74 - (k_i + 1).toInt) < Int.toNat (74 - k_i.toInt) from g_up (show k_i.toInt < (k_i + 1).toInt by omega) (show k_i.toInt < 74 by omega)) ⟨lv_sub hl [3, 2, 1, 0, 5, 6, 7] rfl, hP, hD, hS, ⟨by omega, by omega⟩, ⟨by omega, by omega⟩, ⟨by decide, by decide⟩, ⟨by omega, by omega⟩, by omega, by omega, wci_S i_7 (by first | omega | (unfold gNe at *; omega)) i_11 (by first | omega | (unfold gNe at *; omega)) (by first | omega | (unfold gNe at *; omega)) (by first | omega | (unfold gNe at *; omega)) (by first | omega | (unfold gNe at *; omega)) rfl (by decide +kernel) (by first | omega | (unfold gNe at *; omega))⟩
        ·
          have i_18 : k_a.toInt = p_t.toInt := g5_neN (a := k_a.toInt) (b := p_t.toInt) rfl rfl c_18
          refine lv_iload_n hx hb dX8_wordIn_81 rfl (lv_at hl 1 rfl) ?_
          exact W.iret (v := k_w) hx hb hr (fun t ht hW => ⟨⟨k_w, [(a_x, (arI G 400 f_x))], rfl, ⟨k_w, ⟨by omega, by omega⟩, wci_Y i_7 (by omega) i_11 (by omega) (by omega) (by omega), rfl, rfl⟩, by rw [ht]; exact hP.sub [0] rfl, hD.sub [0] (by decide +kernel) rfl⟩, hS.F ht⟩) hS.2.2 dX8_wordIn_82
    ·
      have n_14 : gNe (z12.toInt) (32) := g5_eqN (a := z12.toInt) (b := 32) rfl (by decide +kernel) c_14
      refine lv_iload hx hb dX8_wordIn_37 (lv_at hl 3 rfl) ?_
      refine lv_if_eq (tgt := 61) hx hb dX8_wordIn_39 (by decide +kernel) (fun c_21 => ?_) (fun c_21 => ?_)
      ·
        have i_21 : k_s.toInt = 0 := g5_eq (a := k_s.toInt) (b := 0) rfl (by decide +kernel) c_21
        refine lv_iconst (v := 0) hx hb dX8_wordIn_61 (by decide +kernel) ?_
        refine lv_istore (lv' := [(5, .int 0), (7, .int z12), (3, .int k_w), (4, .int k_a), (6, .int k_i), (0, .ref a_x), (1, .int p_a), (2, .int p_t)]) hx hb dX8_wordIn_62 hl (by decide +kernel) rfl ?_
        clear hl
        intro ls hl
        refine lv_iinc (v := (k_a + 1)) (lv' := [(4, .int (k_a + 1)), (5, .int 0), (7, .int z12), (3, .int k_w), (6, .int k_i), (0, .ref a_x), (1, .int p_a), (2, .int p_t)]) hx hb dX8_wordIn_64 hl (k := 3) rfl rfl (by decide +kernel) rfl ?_
        clear hl
        intro ls hl
        have t_22 : (k_a + 1).toInt = k_a.toInt + 1 := g5_iadd (a := k_a.toInt) (b := 1) rfl (by decide +kernel) (by omega) (by omega)
        refine lv_goto (tgt := 92) hx hb dX8_wordIn_67 (by decide +kernel) ?_
        refine W.eq (g2 := F0 m 92 ls []) rfl ?_
        refine lv_iinc (v := (k_i + 1)) (lv' := [(6, .int (k_i + 1)), (4, .int (k_a + 1)), (5, .int 0), (7, .int z12), (3, .int k_w), (0, .ref a_x), (1, .int p_a), (2, .int p_t)]) hx hb dX8_wordIn_92 hl (k := 4) rfl rfl (by decide +kernel) rfl ?_
        clear hl
        intro ls hl
        have t_23 : (k_i + 1).toInt = k_i.toInt + 1 := g5_iadd (a := k_i.toInt) (b := 1) rfl (by decide +kernel) (by omega) (by omega)
        refine lv_goto (tgt := 11) hx hb dX8_wordIn_95 (by decide +kernel) ?_
        exact ih_11_8 (k_w, (k_a + 1), 0, (k_i + 1)) ls H locs (show Int.toNat (74 - (k_i + 1).toInt) < Int.toNat (74 - k_i.toInt) from g_up (show k_i.toInt < (k_i + 1).toInt by omega) (show k_i.toInt < 74 by omega)) ⟨lv_sub hl [4, 1, 2, 0, 5, 6, 7] rfl, hP, hD, hS, i_1, ⟨by omega, by omega⟩, ⟨by decide, by decide⟩, ⟨by omega, by omega⟩, by omega, by omega, wci_B i_7 (by first | omega | (unfold gNe at *; omega)) i_11 (by first | omega | (unfold gNe at *; omega)) (by first | omega | (unfold gNe at *; omega)) (by first | omega | (unfold gNe at *; omega)) (by first | omega | (unfold gNe at *; omega)) (by first | omega | (unfold gNe at *; omega)) ⟨fun z => absurd z (by decide +kernel), fun z => by first | omega | (unfold gNe at *; omega)⟩⟩
      ·
        have n_21 : gNe (k_s.toInt) (0) := g5_eqN (a := k_s.toInt) (b := 0) rfl (by decide +kernel) c_21
        have i_21 : k_s.toInt ≥ 1 := by have z := g5_eqN (a := k_s.toInt) (b := 0) (by rfl) (by decide +kernel) c_21; omega
        refine lv_iload hx hb dX8_wordIn_42 (lv_at hl 2 rfl) ?_
        refine lv_iload_n hx hb dX8_wordIn_44 rfl (lv_at hl 7 rfl) ?_
        refine lv_icmp_ge (tgt := 61) hx hb dX8_wordIn_45 (by decide +kernel) (fun c_24 => ?_) (fun c_24 => ?_)
        ·
          have i_24 : k_a.toInt ≥ p_t.toInt := g5_ge (a := k_a.toInt) (b := p_t.toInt) rfl rfl c_24
          refine lv_iconst (v := 0) hx hb dX8_wordIn_61 (by decide +kernel) ?_
          refine lv_istore (lv' := [(5, .int 0), (7, .int z12), (3, .int k_w), (4, .int k_a), (6, .int k_i), (0, .ref a_x), (1, .int p_a), (2, .int p_t)]) hx hb dX8_wordIn_62 hl (by decide +kernel) rfl ?_
          clear hl
          intro ls hl
          refine lv_iinc (v := (k_a + 1)) (lv' := [(4, .int (k_a + 1)), (5, .int 0), (7, .int z12), (3, .int k_w), (6, .int k_i), (0, .ref a_x), (1, .int p_a), (2, .int p_t)]) hx hb dX8_wordIn_64 hl (k := 3) rfl rfl (by decide +kernel) rfl ?_
          clear hl
          intro ls hl
          have t_25 : (k_a + 1).toInt = k_a.toInt + 1 := g5_iadd (a := k_a.toInt) (b := 1) rfl (by decide +kernel) (by omega) (by omega)
          refine lv_goto (tgt := 92) hx hb dX8_wordIn_67 (by decide +kernel) ?_
          refine W.eq (g2 := F0 m 92 ls []) rfl ?_
          refine lv_iinc (v := (k_i + 1)) (lv' := [(6, .int (k_i + 1)), (4, .int (k_a + 1)), (5, .int 0), (7, .int z12), (3, .int k_w), (0, .ref a_x), (1, .int p_a), (2, .int p_t)]) hx hb dX8_wordIn_92 hl (k := 4) rfl rfl (by decide +kernel) rfl ?_
          clear hl
          intro ls hl
          have t_26 : (k_i + 1).toInt = k_i.toInt + 1 := g5_iadd (a := k_i.toInt) (b := 1) rfl (by decide +kernel) (by omega) (by omega)
          refine lv_goto (tgt := 11) hx hb dX8_wordIn_95 (by decide +kernel) ?_
          exact ih_11_8 (k_w, (k_a + 1), 0, (k_i + 1)) ls H locs (show Int.toNat (74 - (k_i + 1).toInt) < Int.toNat (74 - k_i.toInt) from g_up (show k_i.toInt < (k_i + 1).toInt by omega) (show k_i.toInt < 74 by omega)) ⟨lv_sub hl [4, 1, 2, 0, 5, 6, 7] rfl, hP, hD, hS, i_1, ⟨by omega, by omega⟩, ⟨by decide, by decide⟩, ⟨by omega, by omega⟩, by omega, by omega, wci_B i_7 (by first | omega | (unfold gNe at *; omega)) i_11 (by first | omega | (unfold gNe at *; omega)) (by first | omega | (unfold gNe at *; omega)) (by first | omega | (unfold gNe at *; omega)) (by first | omega | (unfold gNe at *; omega)) (by first | omega | (unfold gNe at *; omega)) ⟨fun z => absurd z (by decide +kernel), fun z => by first | omega | (unfold gNe at *; omega)⟩⟩
        ·
          have i_24 : k_a.toInt < p_t.toInt := g5_geN (a := k_a.toInt) (b := p_t.toInt) rfl rfl c_24
          refine lv_aload_n hx hb dX8_wordIn_48 rfl (lv_at hl 5 rfl) ?_
          refine lv_iload hx hb dX8_wordIn_49 (lv_at hl 2 rfl) ?_
          refine va_iald hx hb hK hP 0 0 rfl rfl (i := k_a) (vp_in_iff.mpr ⟨by omega, by omega⟩) dX8_wordIn_51 ?_
          refine lv_iload hx hb dX8_wordIn_52 (lv_at hl 0 rfl) ?_
          refine W.eq (g2 := F0 m 54 ls [.int z12, .int (f_x k_a.toNatClampNeg)]) rfl ?_
          refine lv_icmp_ne (tgt := 61) hx hb dX8_wordIn_54 (by decide +kernel) (fun c_27 => ?_) (fun c_27 => ?_)
          ·
            have n_27 : gNe ((f_x k_a.toNatClampNeg).toInt) (z12.toInt) := g5_ne (a := (f_x k_a.toNatClampNeg).toInt) (b := z12.toInt) rfl rfl c_27
            refine lv_iconst (v := 0) hx hb dX8_wordIn_61 (by decide +kernel) ?_
            refine lv_istore (lv' := [(5, .int 0), (7, .int z12), (3, .int k_w), (4, .int k_a), (6, .int k_i), (0, .ref a_x), (1, .int p_a), (2, .int p_t)]) hx hb dX8_wordIn_62 hl (by decide +kernel) rfl ?_
            clear hl
            intro ls hl
            refine lv_iinc (v := (k_a + 1)) (lv' := [(4, .int (k_a + 1)), (5, .int 0), (7, .int z12), (3, .int k_w), (6, .int k_i), (0, .ref a_x), (1, .int p_a), (2, .int p_t)]) hx hb dX8_wordIn_64 hl (k := 3) rfl rfl (by decide +kernel) rfl ?_
            clear hl
            intro ls hl
            have t_28 : (k_a + 1).toInt = k_a.toInt + 1 := g5_iadd (a := k_a.toInt) (b := 1) rfl (by decide +kernel) (by omega) (by omega)
            refine lv_goto (tgt := 92) hx hb dX8_wordIn_67 (by decide +kernel) ?_
            refine W.eq (g2 := F0 m 92 ls []) rfl ?_
            refine lv_iinc (v := (k_i + 1)) (lv' := [(6, .int (k_i + 1)), (4, .int (k_a + 1)), (5, .int 0), (7, .int z12), (3, .int k_w), (0, .ref a_x), (1, .int p_a), (2, .int p_t)]) hx hb dX8_wordIn_92 hl (k := 4) rfl rfl (by decide +kernel) rfl ?_
            clear hl
            intro ls hl
            have t_29 : (k_i + 1).toInt = k_i.toInt + 1 := g5_iadd (a := k_i.toInt) (b := 1) rfl (by decide +kernel) (by omega) (by omega)
            refine lv_goto (tgt := 11) hx hb dX8_wordIn_95 (by decide +kernel) ?_
            exact ih_11_8 (k_w, (k_a + 1), 0, (k_i + 1)) ls H locs (show Int.toNat (74 - (k_i + 1).toInt) < Int.toNat (74 - k_i.toInt) from g_up (show k_i.toInt < (k_i + 1).toInt by omega) (show k_i.toInt < 74 by omega)) ⟨lv_sub hl [4, 1, 2, 0, 5, 6, 7] rfl, hP, hD, hS, i_1, ⟨by omega, by omega⟩, ⟨by decide, by decide⟩, ⟨by omega, by omega⟩, by omega, by omega, wci_B i_7 (by first | omega | (unfold gNe at *; omega)) i_11 (by first | omega | (unfold gNe at *; omega)) (by first | omega | (unfold gNe at *; omega)) (by first | omega | (unfold gNe at *; omega)) (by first | omega | (unfold gNe at *; omega)) (by first | omega | (unfold gNe at *; omega)) ⟨fun z => absurd z (by decide +kernel), fun z => by first | omega | (unfold gNe at *; omega)⟩⟩
          ·
            have i_27 : (f_x k_a.toNatClampNeg).toInt = z12.toInt := g5_neN (a := (f_x k_a.toNatClampNeg).toInt) (b := z12.toInt) rfl rfl c_27
            refine lv_iconst (v := 1) hx hb dX8_wordIn_57 (by decide +kernel) ?_
            refine lv_goto (tgt := 62) hx hb dX8_wordIn_58 (by decide +kernel) ?_
            refine lv_istore (lv' := [(5, .int 1), (7, .int z12), (3, .int k_w), (4, .int k_a), (6, .int k_i), (0, .ref a_x), (1, .int p_a), (2, .int p_t)]) hx hb dX8_wordIn_62 hl (by decide +kernel) rfl ?_
            clear hl
            intro ls hl
            refine lv_iinc (v := (k_a + 1)) (lv' := [(4, .int (k_a + 1)), (5, .int 1), (7, .int z12), (3, .int k_w), (6, .int k_i), (0, .ref a_x), (1, .int p_a), (2, .int p_t)]) hx hb dX8_wordIn_64 hl (k := 3) rfl rfl (by decide +kernel) rfl ?_
            clear hl
            intro ls hl
            have t_30 : (k_a + 1).toInt = k_a.toInt + 1 := g5_iadd (a := k_a.toInt) (b := 1) rfl (by decide +kernel) (by omega) (by omega)
            refine W.eq (g2 := F0 m 67 ls []) rfl ?_
            refine lv_goto (tgt := 92) hx hb dX8_wordIn_67 (by decide +kernel) ?_
            refine lv_iinc (v := (k_i + 1)) (lv' := [(6, .int (k_i + 1)), (4, .int (k_a + 1)), (5, .int 1), (7, .int z12), (3, .int k_w), (0, .ref a_x), (1, .int p_a), (2, .int p_t)]) hx hb dX8_wordIn_92 hl (k := 4) rfl rfl (by decide +kernel) rfl ?_
            clear hl
            intro ls hl
            have t_31 : (k_i + 1).toInt = k_i.toInt + 1 := g5_iadd (a := k_i.toInt) (b := 1) rfl (by decide +kernel) (by omega) (by omega)
            refine lv_goto (tgt := 11) hx hb dX8_wordIn_95 (by decide +kernel) ?_
            exact ih_11_8 (k_w, (k_a + 1), 1, (k_i + 1)) ls H locs (show Int.toNat (74 - (k_i + 1).toInt) < Int.toNat (74 - k_i.toInt) from g_up (show k_i.toInt < (k_i + 1).toInt by omega) (show k_i.toInt < 74 by omega)) ⟨lv_sub hl [4, 1, 2, 0, 5, 6, 7] rfl, hP, hD, hS, i_1, ⟨by omega, by omega⟩, ⟨by decide, by decide⟩, ⟨by omega, by omega⟩, by omega, by omega, wci_B i_7 (by first | omega | (unfold gNe at *; omega)) i_11 (by first | omega | (unfold gNe at *; omega)) (by first | omega | (unfold gNe at *; omega)) (by first | omega | (unfold gNe at *; omega)) (by first | omega | (unfold gNe at *; omega)) (by first | omega | (unfold gNe at *; omega)) ⟨fun _ => ⟨by omega, by omega, by omega⟩, fun _ => by decide⟩⟩
set_option maxHeartbeats 4000000 in
set_option maxRecDepth 100000 in
theorem k_kindOfX (l : Launch) (G : g5_G) (a_x : Nat) (sz : Nat) (p_a : Int32) (p_t : Int32) (f_x : Nat → Int32) (g_n : Nat) (h_p_a : 0 ≤ p_a.toInt ∧ p_a.toInt ≤ 399) (h_p_t : 0 ≤ p_t.toInt ∧ p_t.toInt ≤ 400) (e_t : p_t.toInt = (enT f_x g_n p_a.toInt.toNat : Int)) (e_n : p_a.toInt < (g_n : Int)) : Met l yX8_kindOf (wsG yX8_kindOf cX8_kindOf 4 (some .int)) ({ frames := 5, cells := 0, slots := 0, locals := 112 }) (va_Pc [.ref a_x, .int p_a, .int p_t] (g5_P G [(a_x, (arI G 400 f_x))] sz)) (va_Qi (fun (r : Int32) (u : va_W) => (∃ (o_r : Int32), (o_r.toInt = kdT f_x g_n p_a.toInt.toNat) ∧ (r = o_r) ∧ (u = [(a_x, (arI G 400 f_x))]))) (g5_B G (va_A [(a_x, (arI G 400 f_x))] sz)) (va_A [(a_x, (arI G 400 f_x))] sz)) 0 0 (va_A [(a_x, (arI G 400 f_x))] sz) := by
  refine Met.ofW (cc := cX8_kindOf) (maxL := 4) (ret := (some .int)) (by decide +kernel) rfl ?_
  intro p e s m args below meth c s₁ B hml hv
  obtain ⟨rfl, hsz, hP, hK, hD0, hN, hT⟩ := hv
  have hx := B.exec
  have hb := B.bytes
  have hr := B.returns
  have hts : ∀ w ∈ tblG, w.before _ s = true := fun w h => atoms_spec (ws := (wsG yX8_kindOf cX8_kindOf 4 (some .int))) B.pre w (List.mem_cons_of_mem _ h)
  have hown : s.vm.findClass RX8 = some m.cls := findClass_of_methodNamed B.named
  have hlocks := B.notSynchronized
  subst hsz
  have hD := hD0.self (sz := s.heap.size)
  generalize hAe : va_A [(a_x, (arI G 400 f_x))] s.heap.size = A at hD hT ⊢
  have hA : ∀ q : Nat, s.heap.size ≤ q → A q := fun q h => by rw [← hAe]; exact Or.inr h
  have hS : va_S A s.heap s.heap [] := va_S.rf
  replace hP : va_P G.1 vwCl [(a_x, (arI G 400 f_x))] s.heap := hP
  have hl := lv_entry ([.ref a_x, .int p_a, .int p_t]) (n := 4) (Nat.le_of_ble_eq_true rfl)
  rw [lg_entry_eq]
  generalize (lg_sl ([.ref a_x, .int p_a, .int p_t]) ++ List.replicate (4 - (lg_sl ([.ref a_x, .int p_a, .int p_t])).length) Slot.unset).toArray = ls at hl ⊢
  replace hl : lv_has ls 4 [(0, .ref a_x), (1, .int p_a), (2, .int p_t)] := hl
  refine lv_aload_n hx hb dX8_kindOf_0 rfl (lv_at hl 0 rfl) ?_
  refine lv_iload_n hx hb dX8_kindOf_1 rfl (lv_at hl 1 rfl) ?_
  refine va_iald hx hb hK hP 0 0 rfl rfl (i := p_a) (vp_in_iff.mpr ⟨by omega, by omega⟩) dX8_kindOf_2 ?_
  obtain ⟨hPc, hDc, hFc⟩ := g5_sub3 (wc := []) hP hD hS hA [] (by decide +kernel) rfl
  refine va_calli (va_runS (As := [.int (f_x p_a.toNatClampNeg)]) (rest := []) ⟨hx, hb, hml, hown, hts⟩ (k_digit l G s.heap.size (f_x p_a.toNatClampNeg)) (va_cwS 1 hts gS_X8_25 rfl rfl rfl hs_X8_isDigit ⟨Nat.le_of_ble_eq_true rfl, Nat.le_of_ble_eq_true rfl⟩) (g5_preS hPc hK hDc hN hT hS hFc) rfl rfl hl.1 rfl (lv_room (Nat.le_of_ble_eq_true rfl)) dX8_kindOf_3 ⟨Nat.le_of_ble_eq_true rfl, Nat.le_of_ble_eq_true rfl⟩) hS (fun q _ h => hFc q h) hFc (fun r u t H locs ht hvm hw hB hz1 hk1 hS => ?_)
  obtain ⟨hP1, hD1⟩ := hB
  have hP1 := g5_ht ht hP1
  rcases hw with ⟨(i_1 : 48 ≤ (f_x p_a.toNatClampNeg).toInt ∧ (f_x p_a.toNatClampNeg).toInt ≤ 57), rfl, rfl⟩ | ⟨(i_2 : (f_x p_a.toNatClampNeg).toInt < 48 ∨ 57 < (f_x p_a.toNatClampNeg).toInt), rfl, rfl⟩
  ·
    have hJ9 := g5_same hP hk1
    clear hP hPc hDc hFc ht hvm hz1 hk1 hP1 hD1
    have hP := hJ9
    clear hJ9
    refine lv_if_eq (tgt := 31) hx hb dX8_kindOf_6 (by decide +kernel) (fun c_3 => ?_) (fun c_3 => ?_)
    ·
      exact absurd c_3 (by decide +kernel)
    ·
      refine lv_aload_n hx hb dX8_kindOf_9 rfl (lv_at hl 0 rfl) ?_
      refine lv_iload_n hx hb dX8_kindOf_10 rfl (lv_at hl 1 rfl) ?_
      refine lv_iload_n hx hb dX8_kindOf_11 rfl (lv_at hl 2 rfl) ?_
      obtain ⟨hPc, hDc, hFc⟩ := g5_sub3 (wc := [(a_x, (arI G 400 f_x))]) hP hD hS hA [0] (by decide +kernel) rfl
      refine va_calli (va_runS (As := [.ref a_x, .int p_a, .int p_t]) (rest := []) ⟨hx, hb, hml, hown, hts⟩ (k_number l G a_x H.size p_a p_t f_x ⟨by omega, by omega⟩ h_p_t) (va_cwS 3 hts gS_X8_29 rfl rfl rfl hs_X8_numberIn ⟨Nat.le_of_ble_eq_true rfl, Nat.le_of_ble_eq_true rfl⟩) (g5_preS hPc hK hDc hN hT hS hFc) rfl rfl hl.1 rfl (lv_room (Nat.le_of_ble_eq_true rfl)) dX8_kindOf_12 ⟨Nat.le_of_ble_eq_true rfl, Nat.le_of_ble_eq_true rfl⟩) hS (fun q _ h => hFc q h) hFc (fun r u t H locs ht hvm hw hB hz1 hk1 hS => ?_)
      obtain ⟨hP1, hD1⟩ := hB
      have hP1 := g5_ht ht hP1
      obtain ⟨z5, (i_4 : z5 = nmbO f_x p_a p_t 0), y6, rfl⟩ := hw
      have hJ9 := va_join (wr := []) hP hD [0] [] rfl rfl (by decide +kernel) (by decide +kernel) hk1 hFc hP1 hD1
      clear hP hD hPc hDc hFc ht hvm hz1 hk1 hP1 hD1
      obtain ⟨hP, hD⟩ := hJ9
      refine g5_rs [(a_x, (arI G 400 f_x))] hP hD ?_
      clear hP hD
      intro hP hD
      refine g5_ti (v := z5) y6 ?_
      refine W.eq (g2 := F0 m 15 ls [.int z5]) rfl ?_
      refine lv_sipush (v := 1000) hx hb dX8_kindOf_15 (by decide +kernel) ?_
      refine lv_icmp_gt (tgt := 27) hx hb dX8_kindOf_18 (by decide +kernel) (fun c_7 => ?_) (fun c_7 => ?_)
      ·
        have i_7 : z5.toInt > 1000 := g5_gt (a := z5.toInt) (b := 1000) rfl (by decide +kernel) c_7
        refine lv_sipush (v := 301) hx hb dX8_kindOf_27 (by decide +kernel) ?_
        exact W.iret (v := 301) hx hb hr (fun t ht hW => ⟨⟨301, [(a_x, (arI G 400 f_x))], rfl, ⟨301, (show (301 : Int32).toInt = 301 by decide).trans (kc_n1 (by omega) (by omega) e_t i_1 i_4 (by omega)), rfl, rfl⟩, by rw [ht]; exact hP.sub [0] rfl, hD.sub [0] (by decide +kernel) rfl⟩, hS.F ht⟩) hS.2.2 dX8_kindOf_30
      ·
        have i_7 : z5.toInt ≤ 1000 := g5_gtN (a := z5.toInt) (b := 1000) rfl (by decide +kernel) c_7
        refine lv_sipush (v := 300) hx hb dX8_kindOf_21 (by decide +kernel) ?_
        refine lv_goto (tgt := 30) hx hb dX8_kindOf_24 (by decide +kernel) ?_
        exact W.iret (v := 300) hx hb hr (fun t ht hW => ⟨⟨300, [(a_x, (arI G 400 f_x))], rfl, ⟨300, (show (300 : Int32).toInt = 300 by decide).trans (kc_n0 (by omega) (by omega) e_t i_1 i_4 (by omega)), rfl, rfl⟩, by rw [ht]; exact hP.sub [0] rfl, hD.sub [0] (by decide +kernel) rfl⟩, hS.F ht⟩) hS.2.2 dX8_kindOf_30
  ·
    have hJ9 := g5_same hP hk1
    clear hP hPc hDc hFc ht hvm hz1 hk1 hP1 hD1
    have hP := hJ9
    clear hJ9
    refine lv_if_eq (tgt := 31) hx hb dX8_kindOf_6 (by decide +kernel) (fun c_8 => ?_) (fun c_8 => ?_)
    ·
      refine lv_aload_n hx hb dX8_kindOf_31 rfl (lv_at hl 0 rfl) ?_
      refine lv_iload_n hx hb dX8_kindOf_32 rfl (lv_at hl 1 rfl) ?_
      refine va_iald hx hb hK hP 0 0 rfl rfl (i := p_a) (vp_in_iff.mpr ⟨by omega, by omega⟩) dX8_kindOf_33 ?_
      obtain ⟨hPc, hDc, hFc⟩ := g5_sub3 (wc := []) hP hD hS hA [] (by decide +kernel) rfl
      refine va_calli (va_runS (As := [.int (f_x p_a.toNatClampNeg)]) (rest := []) ⟨hx, hb, hml, hown, hts⟩ (k_letterX l G H.size (f_x p_a.toNatClampNeg)) (va_cwS 1 hts gS_X8_35 rfl rfl rfl hs_X8_isLetter ⟨Nat.le_of_ble_eq_true rfl, Nat.le_of_ble_eq_true rfl⟩) (g5_preS hPc hK hDc hN hT hS hFc) rfl rfl hl.1 rfl (lv_room (Nat.le_of_ble_eq_true rfl)) dX8_kindOf_34 ⟨Nat.le_of_ble_eq_true rfl, Nat.le_of_ble_eq_true rfl⟩) hS (fun q _ h => hFc q h) hFc (fun r u t H locs ht hvm hw hB hz1 hk1 hS => ?_)
      obtain ⟨hP1, hD1⟩ := hB
      have hP1 := g5_ht ht hP1
      rcases hw with ⟨(i_9 : 97 ≤ (f_x p_a.toNatClampNeg).toInt ∧ (f_x p_a.toNatClampNeg).toInt ≤ 122), rfl, rfl⟩ | ⟨(i_10 : (f_x p_a.toNatClampNeg).toInt < 97 ∨ 122 < (f_x p_a.toNatClampNeg).toInt), rfl, rfl⟩
      ·
        have hJ9 := g5_same hP hk1
        clear hP hPc hDc hFc ht hvm hz1 hk1 hP1 hD1
        have hP := hJ9
        clear hJ9
        refine lv_if_eq (tgt := 64) hx hb dX8_kindOf_37 (by decide +kernel) (fun c_11 => ?_) (fun c_11 => ?_)
        ·
          exact absurd c_11 (by decide +kernel)
        ·
          refine lv_aload_n hx hb dX8_kindOf_40 rfl (lv_at hl 0 rfl) ?_
          refine lv_iload_n hx hb dX8_kindOf_41 rfl (lv_at hl 1 rfl) ?_
          refine lv_iload_n hx hb dX8_kindOf_42 rfl (lv_at hl 2 rfl) ?_
          obtain ⟨hPc, hDc, hFc⟩ := g5_sub3 (wc := [(a_x, (arI G 400 f_x))]) hP hD hS hA [0] (by decide +kernel) rfl
          refine va_calli (va_runS (As := [.ref a_x, .int p_a, .int p_t]) (rest := []) ⟨hx, hb, hml, hown, hts⟩ (k_wordX l G a_x H.size p_a p_t f_x ⟨by omega, by omega⟩ h_p_t) (va_cwS 3 hts gS_X8_38 rfl rfl rfl hs_X8_wordIn ⟨Nat.le_of_ble_eq_true rfl, Nat.le_of_ble_eq_true rfl⟩) (g5_preS hPc hK hDc hN hT hS hFc) rfl rfl hl.1 rfl (lv_room (Nat.le_of_ble_eq_true rfl)) dX8_kindOf_43 ⟨Nat.le_of_ble_eq_true rfl, Nat.le_of_ble_eq_true rfl⟩) hS (fun q _ h => hFc q h) hFc (fun r u t H locs ht hvm hw hB hz1 hk1 hS => ?_)
          obtain ⟨hP1, hD1⟩ := hB
          have hP1 := g5_ht ht hP1
          obtain ⟨z14, (i_12 : -1 ≤ z14.toInt ∧ z14.toInt ≤ 74), (i_13 : z14.toInt = wdT f_x p_a.toInt.toNat p_t.toInt.toNat), y15, rfl⟩ := hw
          have hJ9 := va_join (wr := []) hP hD [0] [] rfl rfl (by decide +kernel) (by decide +kernel) hk1 hFc hP1 hD1
          clear hP hD hPc hDc hFc ht hvm hz1 hk1 hP1 hD1
          obtain ⟨hP, hD⟩ := hJ9
          refine g5_rs [(a_x, (arI G 400 f_x))] hP hD ?_
          clear hP hD
          intro hP hD
          refine g5_ti (v := z14) y15 ?_
          refine W.eq (g2 := F0 m 46 ls [.int z14]) rfl ?_
          refine lv_istore_n (lv' := [(3, .int z14), (0, .ref a_x), (1, .int p_a), (2, .int p_t)]) hx hb dX8_kindOf_46 rfl hl (by decide +kernel) rfl ?_
          clear hl
          intro ls hl
          refine lv_iload_n hx hb dX8_kindOf_47 rfl (lv_at hl 0 rfl) ?_
          refine lv_iconst (v := (-1)) hx hb dX8_kindOf_48 (by decide +kernel) ?_
          refine lv_icmp_ne (tgt := 58) hx hb dX8_kindOf_49 (by decide +kernel) (fun c_16 => ?_) (fun c_16 => ?_)
          ·
            have n_16 : gNe (z14.toInt) ((-1)) := g5_ne (a := z14.toInt) (b := (-1)) rfl (by decide +kernel) c_16
            have i_16 : z14.toInt ≥ 0 := by have z := g5_ne (a := z14.toInt) (b := (-1)) (by rfl) (by decide +kernel) c_16; omega
            refine lv_sipush (v := 256) hx hb dX8_kindOf_58 (by decide +kernel) ?_
            refine lv_iload_n hx hb dX8_kindOf_61 rfl (lv_at hl 0 rfl) ?_
            refine lv_iadd hx hb dX8_kindOf_62 ?_
            have t_17 : (256 + z14).toInt = 256 + z14.toInt := g5_iadd (a := 256) (b := z14.toInt) (by decide +kernel) (by rfl) (by omega) (by omega)
            exact W.iret (v := (256 + z14)) hx hb hr (fun t ht hW => ⟨⟨(256 + z14), [(a_x, (arI G 400 f_x))], rfl, ⟨(256 + z14), (show (256 + z14).toInt = 256 + _ by omega).trans (kc_w (by omega) (by omega) e_t i_9 i_13 (by omega)), rfl, rfl⟩, by rw [ht]; exact hP.sub [0] rfl, hD.sub [0] (by decide +kernel) rfl⟩, hS.F ht⟩) hS.2.2 dX8_kindOf_63
          ·
            have i_16 : z14.toInt = (-1) := g5_neN (a := z14.toInt) (b := (-1)) rfl (by decide +kernel) c_16
            refine lv_sipush (v := 301) hx hb dX8_kindOf_52 (by decide +kernel) ?_
            refine lv_goto (tgt := 63) hx hb dX8_kindOf_55 (by decide +kernel) ?_
            exact W.iret (v := 301) hx hb hr (fun t ht hW => ⟨⟨301, [(a_x, (arI G 400 f_x))], rfl, ⟨301, (show (301 : Int32).toInt = 301 by decide).trans (kc_w1 (by omega) (by omega) e_t i_9 i_13 (by omega)), rfl, rfl⟩, by rw [ht]; exact hP.sub [0] rfl, hD.sub [0] (by decide +kernel) rfl⟩, hS.F ht⟩) hS.2.2 dX8_kindOf_63
      ·
        have hJ9 := g5_same hP hk1
        clear hP hPc hDc hFc ht hvm hz1 hk1 hP1 hD1
        have hP := hJ9
        clear hJ9
        refine lv_if_eq (tgt := 64) hx hb dX8_kindOf_37 (by decide +kernel) (fun c_18 => ?_) (fun c_18 => ?_)
        ·
          refine lv_aload_n hx hb dX8_kindOf_64 rfl (lv_at hl 0 rfl) ?_
          refine lv_iload_n hx hb dX8_kindOf_65 rfl (lv_at hl 1 rfl) ?_
          refine va_iald hx hb hK hP 0 0 rfl rfl (i := p_a) (vp_in_iff.mpr ⟨by omega, by omega⟩) dX8_kindOf_66 ?_
          exact W.iret (v := (f_x p_a.toNatClampNeg)) hx hb hr (fun t ht hW => ⟨⟨(f_x p_a.toNatClampNeg), [(a_x, (arI G 400 f_x))], rfl, ⟨(f_x p_a.toNatClampNeg), kc_s (by omega) (by omega) i_10 i_2, rfl, rfl⟩, by rw [ht]; exact hP.sub [0] rfl, hD.sub [0] (by decide +kernel) rfl⟩, hS.F ht⟩) hS.2.2 dX8_kindOf_67
        ·
          exact absurd c_18 (by decide +kernel)
    ·
      exact absurd c_8 (by decide +kernel)
set_option maxHeartbeats 4000000 in
set_option maxRecDepth 100000 in
theorem k_cutX (l : Launch) (G : g5_G) (a_tk a_kd a_nm a_pl a_x : Nat) (sz : Nat) (p_n : Int32) (f_kd : Nat → Int32) (f_nm : Nat → Int32) (f_pl : Nat → Int32) (f_x : Nat → Int32) (h_p_n : 0 ≤ p_n.toInt ∧ p_n.toInt ≤ 400) (e_tk : TOKI f_kd f_nm) : Met l yX8_cut (wsG yX8_cut cX8_cut 7 none) ({ frames := 6, cells := 0, slots := 0, locals := 135 }) (va_Pc [.ref a_tk, .ref a_x, .int p_n] (g5_P G [(a_tk, (oc8 a_kd a_nm a_pl)), (a_kd, (arI G 401 f_kd)), (a_nm, (arI G 401 f_nm)), (a_pl, (arI G 401 f_pl)), (a_x, (arI G 400 f_x))] sz)) (va_Qv (fun (u : va_W) => (∃ (o_kd : Nat → Int32) (o_nm : Nat → Int32) (o_pl : Nat → Int32), (TOKI o_kd o_nm) ∧ (∃ T : Nat, TKA o_kd o_nm o_pl f_x p_n.toInt.toNat T ∧ TKE o_kd o_pl f_x p_n.toInt.toNat T) ∧ (u = [(a_tk, (oc8 a_kd a_nm a_pl)), (a_kd, (arI G 401 o_kd)), (a_nm, (arI G 401 o_nm)), (a_pl, (arI G 401 o_pl)), (a_x, (arI G 400 f_x))]))) (g5_B G (va_A [(a_tk, (oc8 a_kd a_nm a_pl)), (a_kd, (arI G 401 f_kd)), (a_nm, (arI G 401 f_nm)), (a_pl, (arI G 401 f_pl)), (a_x, (arI G 400 f_x))] sz)) (va_A [(a_tk, (oc8 a_kd a_nm a_pl)), (a_kd, (arI G 401 f_kd)), (a_nm, (arI G 401 f_nm)), (a_pl, (arI G 401 f_pl)), (a_x, (arI G 400 f_x))] sz)) 0 0 (va_A [(a_tk, (oc8 a_kd a_nm a_pl)), (a_kd, (arI G 401 f_kd)), (a_nm, (arI G 401 f_nm)), (a_pl, (arI G 401 f_pl)), (a_x, (arI G 400 f_x))] sz) := by
  refine Met.ofW (cc := cX8_cut) (maxL := 7) (ret := none) (by decide +kernel) rfl ?_
  intro p e s m args below meth c s₁ B hml hv
  obtain ⟨rfl, hsz, hP, hK, hD0, hN, hT⟩ := hv
  have hx := B.exec
  have hb := B.bytes
  have hr := B.returns
  have hts : ∀ w ∈ tblG, w.before _ s = true := fun w h => atoms_spec (ws := (wsG yX8_cut cX8_cut 7 none)) B.pre w (List.mem_cons_of_mem _ h)
  have hown : s.vm.findClass RX8 = some m.cls := findClass_of_methodNamed B.named
  have hlocks := B.notSynchronized
  subst hsz
  have hD := hD0.self (sz := s.heap.size)
  generalize hAe : va_A [(a_tk, (oc8 a_kd a_nm a_pl)), (a_kd, (arI G 401 f_kd)), (a_nm, (arI G 401 f_nm)), (a_pl, (arI G 401 f_pl)), (a_x, (arI G 400 f_x))] s.heap.size = A at hD hT ⊢
  have hA : ∀ q : Nat, s.heap.size ≤ q → A q := fun q h => by rw [← hAe]; exact Or.inr h
  have hS : va_S A s.heap s.heap [] := va_S.rf
  replace hP : va_P G.1 vwCl [(a_tk, (oc8 a_kd a_nm a_pl)), (a_kd, (arI G 401 f_kd)), (a_nm, (arI G 401 f_nm)), (a_pl, (arI G 401 f_pl)), (a_x, (arI G 400 f_x))] s.heap := hP
  have hl := lv_entry ([.ref a_tk, .ref a_x, .int p_n]) (n := 7) (Nat.le_of_ble_eq_true rfl)
  rw [lg_entry_eq]
  generalize (lg_sl ([.ref a_tk, .ref a_x, .int p_n]) ++ List.replicate (7 - (lg_sl ([.ref a_tk, .ref a_x, .int p_n])).length) Slot.unset).toArray = ls at hl ⊢
  replace hl : lv_has ls 7 [(0, .ref a_tk), (1, .ref a_x), (2, .int p_n)] := hl
  refine lv_iconst (v := 0) hx hb dX8_cut_0 (by decide +kernel) ?_
  refine lv_istore_n (lv' := [(3, .int 0), (0, .ref a_tk), (1, .ref a_x), (2, .int p_n)]) hx hb dX8_cut_1 rfl hl (by decide +kernel) rfl ?_
  clear hl
  intro ls hl
  refine lv_iconst (v := 0) hx hb dX8_cut_2 (by decide +kernel) ?_
  refine lv_istore (lv' := [(4, .int 0), (3, .int 0), (0, .ref a_tk), (1, .ref a_x), (2, .int p_n)]) hx hb dX8_cut_3 hl (by decide +kernel) rfl ?_
  clear hl
  intro ls hl
  refine W.eq (g2 := F0 m 5 ls []) rfl ?_
  refine lv_iconst (v := 0) hx hb dX8_cut_5 (by decide +kernel) ?_
  refine lv_istore (lv' := [(5, .int 0), (4, .int 0), (3, .int 0), (0, .ref a_tk), (1, .ref a_x), (2, .int p_n)]) hx hb dX8_cut_6 hl (by decide +kernel) rfl ?_
  clear hl
  intro ls hl
  refine g5_loop (α := (Int32) × (Int32) × (Int32) × (Nat → Int32) × (Nat → Int32) × (Nat → Int32)) (fun (q : (Int32) × (Int32) × (Int32) × (Nat → Int32) × (Nat → Int32) × (Nat → Int32)) (ls : Array Slot) (H : Heap) (locs : List Loc) => match q with | (k_t, k_a, k_i, k_kd, k_nm, k_pl) => lv_has ls 7 [(3, .int k_t), (4, .int k_a), (5, .int k_i), (0, .ref a_tk), (1, .ref a_x), (2, .int p_n)] ∧ va_P G.1 vwCl [(a_tk, (oc8 a_kd a_nm a_pl)), (a_kd, (arI G 401 k_kd)), (a_nm, (arI G 401 k_nm)), (a_pl, (arI G 401 k_pl)), (a_x, (arI G 400 f_x))] H ∧ va_D A [(a_tk, (oc8 a_kd a_nm a_pl)), (a_kd, (arI G 401 k_kd)), (a_nm, (arI G 401 k_nm)), (a_pl, (arI G 401 k_pl)), (a_x, (arI G 400 f_x))] ∧ va_S A s.heap H locs ∧ (0 ≤ k_t.toInt ∧ k_t.toInt ≤ 400) ∧ (0 ≤ k_a.toInt ∧ k_a.toInt ≤ 400) ∧ (0 ≤ k_i.toInt ∧ k_i.toInt ≤ 400) ∧ (k_t.toInt ≤ k_i.toInt) ∧ (k_i.toInt ≤ k_a.toInt ∧ k_a.toInt ≤ p_n.toInt) ∧ (TOKI k_kd k_nm) ∧ (TKA k_kd k_nm k_pl f_x p_n.toInt.toNat k_t.toInt.toNat) ∧ (CUT f_x p_n.toInt.toNat k_t.toInt.toNat k_a.toInt)) (fun (q : (Int32) × (Int32) × (Int32) × (Nat → Int32) × (Nat → Int32) × (Nat → Int32)) => match q with | (k_t, k_a, k_i, k_kd, k_nm, k_pl) => Int.toNat (400 - k_i.toInt)) (0, 0, 0, f_kd, f_nm, f_pl) ⟨lv_sub hl [2, 1, 0, 3, 4, 5] rfl, hP, hD, hS, ⟨by decide, by decide⟩, ⟨by decide, by decide⟩, ⟨by decide, by decide⟩, Int.le_refl _, by have z0 : (0 : Int32).toInt = 0 := (by decide +kernel); omega, e_tk, tka_0 (by decide +kernel), cut_0 (by decide +kernel) (by decide +kernel)⟩ ?_
  rintro ⟨k_t, k_a, k_i, k_kd, k_nm, k_pl⟩ ls H locs ⟨hl, hP, hD, hS, (i_1 : 0 ≤ k_t.toInt ∧ k_t.toInt ≤ 400), (i_2 : 0 ≤ k_a.toInt ∧ k_a.toInt ≤ 400), (i_3 : 0 ≤ k_i.toInt ∧ k_i.toInt ≤ 400), (i_4 : k_t.toInt ≤ k_i.toInt), (i_5 : k_i.toInt ≤ k_a.toInt ∧ k_a.toInt ≤ p_n.toInt), (i_6 : TOKI k_kd k_nm), (i_7 : TKA k_kd k_nm k_pl f_x p_n.toInt.toNat k_t.toInt.toNat), (i_8 : CUT f_x p_n.toInt.toNat k_t.toInt.toNat k_a.toInt)⟩ ih_8_9
  replace hl : lv_has ls 7 [(3, .int k_t), (4, .int k_a), (5, .int k_i), (0, .ref a_tk), (1, .ref a_x), (2, .int p_n)] := hl
  refine g5_rs [(a_tk, (oc8 a_kd a_nm a_pl)), (a_kd, (arI G 401 k_kd)), (a_nm, (arI G 401 k_nm)), (a_pl, (arI G 401 k_pl)), (a_x, (arI G 400 f_x))] hP hD ?_
  clear hP hD
  intro hP hD
  refine lv_iload hx hb dX8_cut_8 (lv_at hl 2 rfl) ?_
  refine lv_iload_n hx hb dX8_cut_10 rfl (lv_at hl 5 rfl) ?_
  refine lv_icmp_ge (tgt := 101) hx hb dX8_cut_11 (by decide +kernel) (fun c_10 => ?_) (fun c_10 => ?_)
  ·
    have i_10 : k_i.toInt ≥ p_n.toInt := g5_ge (a := k_i.toInt) (b := p_n.toInt) rfl rfl c_10
    refine lv_aload_n hx hb dX8_cut_101 rfl (lv_at hl 3 rfl) ?_
    refine va_get (D := G.1) (ci := 8) (v := .ref a_pl) (C := RX8) (T := TX8) (N := 3) hx hb hts inG_X8 hown hK hP 0 rfl rfl 2 (by decide +kernel) (hts _ fl_X8_18) (fun _ h9 => h9) rfl dX8_cut_102 ?_
    refine lv_iload_n hx hb dX8_cut_105 rfl (lv_at hl 0 rfl) ?_
    refine lv_iload_n hx hb dX8_cut_106 rfl (lv_at hl 5 rfl) ?_
    refine W.eq (g2 := F0 m 107 ls [.int p_n, .int k_t, .ref a_pl]) rfl ?_
    refine va_iast hx hb hK hP hD hS 3 0 rfl rfl (i := k_t) (x := p_n) (vp_in_iff.mpr ⟨by omega, by omega⟩) dX8_cut_107 ?_
    clear hP hD hS
    intro H locs hP hD hS
    refine g5_rs [(a_tk, (oc8 a_kd a_nm a_pl)), (a_kd, (arI G 401 k_kd)), (a_nm, (arI G 401 k_nm)), (a_pl, (arI G 401 (upd k_pl k_t.toNatClampNeg p_n))), (a_x, (arI G 400 f_x))] hP hD ?_
    clear hP hD
    intro hP hD
    refine lv_aload_n hx hb dX8_cut_108 rfl (lv_at hl 3 rfl) ?_
    refine va_get (D := G.1) (ci := 8) (v := .ref a_kd) (C := RX8) (T := TX8) (N := 3) hx hb hts inG_X8 hown hK hP 0 rfl rfl 0 (by decide +kernel) (hts _ fl_X8_9) (fun _ h9 => h9) rfl dX8_cut_109 ?_
    refine lv_iload_n hx hb dX8_cut_112 rfl (lv_at hl 0 rfl) ?_
    refine lv_sipush (v := 302) hx hb dX8_cut_113 (by decide +kernel) ?_
    refine W.eq (g2 := F0 m 116 ls [.int 302, .int k_t, .ref a_kd]) rfl ?_
    refine va_iast hx hb hK hP hD hS 1 0 rfl rfl (i := k_t) (x := 302) (vp_in_iff.mpr ⟨by omega, by omega⟩) dX8_cut_116 ?_
    clear hP hD hS
    intro H locs hP hD hS
    refine g5_rs [(a_tk, (oc8 a_kd a_nm a_pl)), (a_kd, (arI G 401 (upd k_kd k_t.toNatClampNeg 302))), (a_nm, (arI G 401 k_nm)), (a_pl, (arI G 401 (upd k_pl k_t.toNatClampNeg p_n))), (a_x, (arI G 400 f_x))] hP hD ?_
    clear hP hD
    intro hP hD
    exact W.vret hx hb hr (fun t ht hW => ⟨⟨[(a_tk, (oc8 a_kd a_nm a_pl)), (a_kd, (arI G 401 (upd k_kd k_t.toNatClampNeg 302))), (a_nm, (arI G 401 k_nm)), (a_pl, (arI G 401 (upd k_pl k_t.toNatClampNeg p_n))), (a_x, (arI G 400 f_x))], rfl, ⟨(upd k_kd k_t.toNatClampNeg 302), k_nm, (upd k_pl k_t.toNatClampNeg p_n), tok_end i_6, ⟨_, tka_E i_7 i_8 (by omega) (by omega) (by omega)⟩, rfl⟩, by rw [ht]; exact hP.sub [0, 1, 2, 3, 4] rfl, hD.sub [0, 1, 2, 3, 4] (by decide +kernel) rfl⟩, hS.F ht⟩) hS.2.2 dX8_cut_117
  ·
    have i_10 : k_i.toInt < p_n.toInt := g5_geN (a := k_i.toInt) (b := p_n.toInt) rfl rfl c_10
    refine lv_iload hx hb dX8_cut_14 (lv_at hl 1 rfl) ?_
    refine lv_iload_n hx hb dX8_cut_16 rfl (lv_at hl 5 rfl) ?_
    refine lv_icmp_ge (tgt := 101) hx hb dX8_cut_17 (by decide +kernel) (fun c_11 => ?_) (fun c_11 => ?_)
    ·
      have i_11 : k_a.toInt ≥ p_n.toInt := g5_ge (a := k_a.toInt) (b := p_n.toInt) rfl rfl c_11
      refine lv_aload_n hx hb dX8_cut_101 rfl (lv_at hl 3 rfl) ?_
      refine va_get (D := G.1) (ci := 8) (v := .ref a_pl) (C := RX8) (T := TX8) (N := 3) hx hb hts inG_X8 hown hK hP 0 rfl rfl 2 (by decide +kernel) (hts _ fl_X8_18) (fun _ h9 => h9) rfl dX8_cut_102 ?_
      refine lv_iload_n hx hb dX8_cut_105 rfl (lv_at hl 0 rfl) ?_
      refine lv_iload_n hx hb dX8_cut_106 rfl (lv_at hl 5 rfl) ?_
      refine W.eq (g2 := F0 m 107 ls [.int p_n, .int k_t, .ref a_pl]) rfl ?_
      refine va_iast hx hb hK hP hD hS 3 0 rfl rfl (i := k_t) (x := p_n) (vp_in_iff.mpr ⟨by omega, by omega⟩) dX8_cut_107 ?_
      clear hP hD hS
      intro H locs hP hD hS
      refine g5_rs [(a_tk, (oc8 a_kd a_nm a_pl)), (a_kd, (arI G 401 k_kd)), (a_nm, (arI G 401 k_nm)), (a_pl, (arI G 401 (upd k_pl k_t.toNatClampNeg p_n))), (a_x, (arI G 400 f_x))] hP hD ?_
      clear hP hD
      intro hP hD
      refine lv_aload_n hx hb dX8_cut_108 rfl (lv_at hl 3 rfl) ?_
      refine va_get (D := G.1) (ci := 8) (v := .ref a_kd) (C := RX8) (T := TX8) (N := 3) hx hb hts inG_X8 hown hK hP 0 rfl rfl 0 (by decide +kernel) (hts _ fl_X8_9) (fun _ h9 => h9) rfl dX8_cut_109 ?_
      refine lv_iload_n hx hb dX8_cut_112 rfl (lv_at hl 0 rfl) ?_
      refine lv_sipush (v := 302) hx hb dX8_cut_113 (by decide +kernel) ?_
      refine W.eq (g2 := F0 m 116 ls [.int 302, .int k_t, .ref a_kd]) rfl ?_
      refine va_iast hx hb hK hP hD hS 1 0 rfl rfl (i := k_t) (x := 302) (vp_in_iff.mpr ⟨by omega, by omega⟩) dX8_cut_116 ?_
      clear hP hD hS
      intro H locs hP hD hS
      refine g5_rs [(a_tk, (oc8 a_kd a_nm a_pl)), (a_kd, (arI G 401 (upd k_kd k_t.toNatClampNeg 302))), (a_nm, (arI G 401 k_nm)), (a_pl, (arI G 401 (upd k_pl k_t.toNatClampNeg p_n))), (a_x, (arI G 400 f_x))] hP hD ?_
      clear hP hD
      intro hP hD
      exact W.vret hx hb hr (fun t ht hW => ⟨⟨[(a_tk, (oc8 a_kd a_nm a_pl)), (a_kd, (arI G 401 (upd k_kd k_t.toNatClampNeg 302))), (a_nm, (arI G 401 k_nm)), (a_pl, (arI G 401 (upd k_pl k_t.toNatClampNeg p_n))), (a_x, (arI G 400 f_x))], rfl, ⟨(upd k_kd k_t.toNatClampNeg 302), k_nm, (upd k_pl k_t.toNatClampNeg p_n), tok_end i_6, ⟨_, tka_E i_7 i_8 (by omega) (by omega) (by omega)⟩, rfl⟩, by rw [ht]; exact hP.sub [0, 1, 2, 3, 4] rfl, hD.sub [0, 1, 2, 3, 4] (by decide +kernel) rfl⟩, hS.F ht⟩) hS.2.2 dX8_cut_117
    ·
      have i_11 : k_a.toInt < p_n.toInt := g5_geN (a := k_a.toInt) (b := p_n.toInt) rfl rfl c_11
      refine lv_aload_n hx hb dX8_cut_20 rfl (lv_at hl 4 rfl) ?_
      refine lv_iload hx hb dX8_cut_21 (lv_at hl 1 rfl) ?_
      refine lv_iload_n hx hb dX8_cut_23 rfl (lv_at hl 5 rfl) ?_
      obtain ⟨hPc, hDc, hFc⟩ := g5_sub3 (wc := [(a_x, (arI G 400 f_x))]) hP hD hS hA [4] (by decide +kernel) rfl
      refine va_calli (va_runS (As := [.ref a_x, .int k_a, .int p_n]) (rest := []) ⟨hx, hb, hml, hown, hts⟩ (k_endOfX l G a_x H.size k_a p_n f_x ⟨by omega, by omega⟩ h_p_n (by omega)) (va_cwS 3 hts gS_X8_21 rfl rfl rfl hs_X8_endOf ⟨Nat.le_of_ble_eq_true rfl, Nat.le_of_ble_eq_true rfl⟩) (g5_preS hPc hK hDc hN hT hS hFc) rfl rfl hl.1 rfl (lv_room (Nat.le_of_ble_eq_true rfl)) dX8_cut_24 ⟨Nat.le_of_ble_eq_true rfl, Nat.le_of_ble_eq_true rfl⟩) hS (fun q _ h => hFc q h) hFc (fun r u t H locs ht hvm hw hB hz1 hk1 hS => ?_)
      obtain ⟨hP1, hD1⟩ := hB
      have hP1 := g5_ht ht hP1
      obtain ⟨z14, (i_12 : k_a.toInt < z14.toInt ∧ z14.toInt ≤ p_n.toInt), (i_13 : z14.toInt = (enT f_x p_n.toInt.toNat k_a.toInt.toNat : Int)), y15, rfl⟩ := hw
      have hJ9 := va_join (wr := [(a_tk, (oc8 a_kd a_nm a_pl)), (a_kd, (arI G 401 k_kd)), (a_nm, (arI G 401 k_nm)), (a_pl, (arI G 401 k_pl))]) hP hD [4] [0, 1, 2, 3] rfl rfl (by decide +kernel) (by decide +kernel) hk1 hFc hP1 hD1
      clear hP hD hPc hDc hFc ht hvm hz1 hk1 hP1 hD1
      obtain ⟨hP, hD⟩ := hJ9
      refine g5_rs [(a_tk, (oc8 a_kd a_nm a_pl)), (a_kd, (arI G 401 k_kd)), (a_nm, (arI G 401 k_nm)), (a_pl, (arI G 401 k_pl)), (a_x, (arI G 400 f_x))] hP hD ?_
      clear hP hD
      intro hP hD
      refine g5_ti (v := z14) y15 ?_
      refine W.eq (g2 := F0 m 27 ls [.int z14]) rfl ?_
      refine lv_istore (lv' := [(6, .int z14), (3, .int k_t), (4, .int k_a), (5, .int k_i), (0, .ref a_tk), (1, .ref a_x), (2, .int p_n)]) hx hb dX8_cut_27 hl (by decide +kernel) rfl ?_
      clear hl
      intro ls hl
      refine lv_aload_n hx hb dX8_cut_29 rfl (lv_at hl 5 rfl) ?_
      refine lv_iload hx hb dX8_cut_30 (lv_at hl 2 rfl) ?_
      refine va_iald hx hb hK hP 4 0 rfl rfl (i := k_a) (vp_in_iff.mpr ⟨by omega, by omega⟩) dX8_cut_32 ?_
      refine lv_bipush (v := 32) hx hb dX8_cut_33 (by decide +kernel) ?_
      refine W.eq (g2 := F0 m 35 ls [.int 32, .int (f_x k_a.toNatClampNeg)]) rfl ?_
      refine lv_icmp_eq (tgt := 91) hx hb dX8_cut_35 (by decide +kernel) (fun c_16 => ?_) (fun c_16 => ?_)
      ·
        have i_16 : (f_x k_a.toNatClampNeg).toInt = 32 := g5_eq (a := (f_x k_a.toNatClampNeg).toInt) (b := 32) rfl (by decide +kernel) c_16
        refine lv_iload hx hb dX8_cut_91 (lv_at hl 0 rfl) ?_
        refine lv_istore (lv' := [(4, .int z14), (6, .int z14), (3, .int k_t), (5, .int k_i), (0, .ref a_tk), (1, .ref a_x), (2, .int p_n)]) hx hb dX8_cut_93 hl (by decide +kernel) rfl ?_
        clear hl
        intro ls hl
        refine lv_iinc (v := (k_i + 1)) (lv' := [(5, .int (k_i + 1)), (4, .int z14), (6, .int z14), (3, .int k_t), (0, .ref a_tk), (1, .ref a_x), (2, .int p_n)]) hx hb dX8_cut_95 hl (k := 3) rfl rfl (by decide +kernel) rfl ?_
        clear hl
        intro ls hl
        have t_17 : (k_i + 1).toInt = k_i.toInt + 1 := g5_iadd (a := k_i.toInt) (b := 1) rfl (by decide +kernel) (by omega) (by omega)
        refine lv_goto (tgt := 8) hx hb dX8_cut_98 (by decide +kernel) ?_
        exact ih_8_9 (k_t, z14, (k_i + 1), k_kd, k_nm, k_pl) ls H locs (show Int.toNat (400 - (k_i + 1).toInt) < Int.toNat (400 - k_i.toInt) from g_up (show k_i.toInt < (k_i + 1).toInt by omega) (show k_i.toInt < 400 by omega)) ⟨lv_sub hl [3, 1, 0, 4, 5, 6] rfl, hP, hD, hS, i_1, ⟨by omega, by omega⟩, ⟨by omega, by omega⟩, by omega, by omega, i_6, i_7, cut_bl i_8 (by omega) (by omega) (by omega) i_13⟩
      ·
        have n_16 : gNe ((f_x k_a.toNatClampNeg).toInt) (32) := g5_eqN (a := (f_x k_a.toNatClampNeg).toInt) (b := 32) rfl (by decide +kernel) c_16
        refine lv_aload_n hx hb dX8_cut_38 rfl (lv_at hl 4 rfl) ?_
        refine va_get (D := G.1) (ci := 8) (v := .ref a_pl) (C := RX8) (T := TX8) (N := 3) hx hb hts inG_X8 hown hK hP 0 rfl rfl 2 (by decide +kernel) (hts _ fl_X8_18) (fun _ h9 => h9) rfl dX8_cut_39 ?_
        refine lv_iload_n hx hb dX8_cut_42 rfl (lv_at hl 1 rfl) ?_
        refine lv_iload hx hb dX8_cut_43 (lv_at hl 2 rfl) ?_
        refine W.eq (g2 := F0 m 45 ls [.int k_a, .int k_t, .ref a_pl]) rfl ?_
        refine va_iast hx hb hK hP hD hS 3 0 rfl rfl (i := k_t) (x := k_a) (vp_in_iff.mpr ⟨by omega, by omega⟩) dX8_cut_45 ?_
        clear hP hD hS
        intro H locs hP hD hS
        refine g5_rs [(a_tk, (oc8 a_kd a_nm a_pl)), (a_kd, (arI G 401 k_kd)), (a_nm, (arI G 401 k_nm)), (a_pl, (arI G 401 (upd k_pl k_t.toNatClampNeg k_a))), (a_x, (arI G 400 f_x))] hP hD ?_
        clear hP hD
        intro hP hD
        refine lv_aload_n hx hb dX8_cut_46 rfl (lv_at hl 4 rfl) ?_
        refine va_get (D := G.1) (ci := 8) (v := .ref a_nm) (C := RX8) (T := TX8) (N := 3) hx hb hts inG_X8 hown hK hP 0 rfl rfl 1 (by decide +kernel) (hts _ fl_X8_15) (fun _ h9 => h9) rfl dX8_cut_47 ?_
        refine lv_iload_n hx hb dX8_cut_50 rfl (lv_at hl 1 rfl) ?_
        refine lv_aload_n hx hb dX8_cut_51 rfl (lv_at hl 5 rfl) ?_
        refine W.eq (g2 := F0 m 52 ls [.ref a_x, .int k_t, .ref a_nm]) rfl ?_
        refine lv_iload hx hb dX8_cut_52 (lv_at hl 2 rfl) ?_
        refine va_iald hx hb hK hP 4 0 rfl rfl (i := k_a) (vp_in_iff.mpr ⟨by omega, by omega⟩) dX8_cut_54 ?_
        obtain ⟨hPc, hDc, hFc⟩ := g5_sub3 (wc := []) hP hD hS hA [] (by decide +kernel) rfl
        refine va_calli (va_runS (As := [.int (f_x k_a.toNatClampNeg)]) (rest := [.int k_t, .ref a_nm]) ⟨hx, hb, hml, hown, hts⟩ (k_digit l G H.size (f_x k_a.toNatClampNeg)) (va_cwS 1 hts gS_X8_25 rfl rfl rfl hs_X8_isDigit ⟨Nat.le_of_ble_eq_true rfl, Nat.le_of_ble_eq_true rfl⟩) (g5_preS hPc hK hDc hN hT hS hFc) rfl rfl hl.1 rfl (lv_room (Nat.le_of_ble_eq_true rfl)) dX8_cut_55 ⟨Nat.le_of_ble_eq_true rfl, Nat.le_of_ble_eq_true rfl⟩) hS (fun q _ h => hFc q h) hFc (fun r u t H locs ht hvm hw hB hz1 hk1 hS => ?_)
        obtain ⟨hP1, hD1⟩ := hB
        have hP1 := g5_ht ht hP1
        rcases hw with ⟨(i_18 : 48 ≤ (f_x k_a.toNatClampNeg).toInt ∧ (f_x k_a.toNatClampNeg).toInt ≤ 57), rfl, rfl⟩ | ⟨(i_19 : (f_x k_a.toNatClampNeg).toInt < 48 ∨ 57 < (f_x k_a.toNatClampNeg).toInt), rfl, rfl⟩
        ·
          have hJ9 := g5_same hP hk1
          clear hP hPc hDc hFc ht hvm hz1 hk1 hP1 hD1
          have hP := hJ9
          clear hJ9
          refine lv_if_eq (tgt := 72) hx hb dX8_cut_58 (by decide +kernel) (fun c_20 => ?_) (fun c_20 => ?_)
          ·
            exact absurd c_20 (by decide +kernel)
          ·
            refine lv_aload_n hx hb dX8_cut_61 rfl (lv_at hl 5 rfl) ?_
            refine lv_iload hx hb dX8_cut_62 (lv_at hl 2 rfl) ?_
            refine lv_iload hx hb dX8_cut_64 (lv_at hl 0 rfl) ?_
            obtain ⟨hPc, hDc, hFc⟩ := g5_sub3 (wc := [(a_x, (arI G 400 f_x))]) hP hD hS hA [4] (by decide +kernel) rfl
            refine va_calli (va_runS (As := [.ref a_x, .int k_a, .int z14]) (rest := [.int k_t, .ref a_nm]) ⟨hx, hb, hml, hown, hts⟩ (k_number l G a_x H.size k_a z14 f_x i_2 ⟨by omega, by omega⟩) (va_cwS 3 hts gS_X8_29 rfl rfl rfl hs_X8_numberIn ⟨Nat.le_of_ble_eq_true rfl, Nat.le_of_ble_eq_true rfl⟩) (g5_preS hPc hK hDc hN hT hS hFc) rfl rfl hl.1 rfl (lv_room (Nat.le_of_ble_eq_true rfl)) dX8_cut_66 ⟨Nat.le_of_ble_eq_true rfl, Nat.le_of_ble_eq_true rfl⟩) hS (fun q _ h => hFc q h) hFc (fun r u t H locs ht hvm hw hB hz1 hk1 hS => ?_)
            obtain ⟨hP1, hD1⟩ := hB
            have hP1 := g5_ht ht hP1
            obtain ⟨z22, (i_21 : z22 = nmbO f_x k_a z14 0), y23, rfl⟩ := hw
            have hJ9 := va_join (wr := [(a_tk, (oc8 a_kd a_nm a_pl)), (a_kd, (arI G 401 k_kd)), (a_nm, (arI G 401 k_nm)), (a_pl, (arI G 401 (upd k_pl k_t.toNatClampNeg k_a)))]) hP hD [4] [0, 1, 2, 3] rfl rfl (by decide +kernel) (by decide +kernel) hk1 hFc hP1 hD1
            clear hP hD hPc hDc hFc ht hvm hz1 hk1 hP1 hD1
            obtain ⟨hP, hD⟩ := hJ9
            refine g5_rs [(a_tk, (oc8 a_kd a_nm a_pl)), (a_kd, (arI G 401 k_kd)), (a_nm, (arI G 401 k_nm)), (a_pl, (arI G 401 (upd k_pl k_t.toNatClampNeg k_a))), (a_x, (arI G 400 f_x))] hP hD ?_
            clear hP hD
            intro hP hD
            refine g5_ti (v := z22) y23 ?_
            refine W.eq (g2 := F0 m 69 ls [.int z22, .int k_t, .ref a_nm]) rfl ?_
            refine lv_goto (tgt := 73) hx hb dX8_cut_69 (by decide +kernel) ?_
            refine va_iast hx hb hK hP hD hS 2 0 rfl rfl (i := k_t) (x := z22) (vp_in_iff.mpr ⟨by omega, by omega⟩) dX8_cut_73 ?_
            clear hP hD hS
            intro H locs hP hD hS
            refine g5_rs [(a_tk, (oc8 a_kd a_nm a_pl)), (a_kd, (arI G 401 k_kd)), (a_nm, (arI G 401 (upd k_nm k_t.toNatClampNeg z22))), (a_pl, (arI G 401 (upd k_pl k_t.toNatClampNeg k_a))), (a_x, (arI G 400 f_x))] hP hD ?_
            clear hP hD
            intro hP hD
            refine lv_aload_n hx hb dX8_cut_74 rfl (lv_at hl 4 rfl) ?_
            refine va_get (D := G.1) (ci := 8) (v := .ref a_kd) (C := RX8) (T := TX8) (N := 3) hx hb hts inG_X8 hown hK hP 0 rfl rfl 0 (by decide +kernel) (hts _ fl_X8_9) (fun _ h9 => h9) rfl dX8_cut_75 ?_
            refine lv_iload_n hx hb dX8_cut_78 rfl (lv_at hl 1 rfl) ?_
            refine W.eq (g2 := F0 m 79 ls [.int k_t, .ref a_kd]) rfl ?_
            refine lv_aload_n hx hb dX8_cut_79 rfl (lv_at hl 5 rfl) ?_
            refine lv_iload hx hb dX8_cut_80 (lv_at hl 2 rfl) ?_
            refine lv_iload hx hb dX8_cut_82 (lv_at hl 0 rfl) ?_
            obtain ⟨hPc, hDc, hFc⟩ := g5_sub3 (wc := [(a_x, (arI G 400 f_x))]) hP hD hS hA [4] (by decide +kernel) rfl
            refine va_calli (va_runS (As := [.ref a_x, .int k_a, .int z14]) (rest := [.int k_t, .ref a_kd]) ⟨hx, hb, hml, hown, hts⟩ (k_kindOfX l G a_x H.size k_a z14 f_x p_n.toInt.toNat ⟨by omega, by omega⟩ ⟨by omega, by omega⟩ (i_13) (by omega)) (va_cwS 3 hts gS_X8_32 rfl rfl rfl hs_X8_kindOf ⟨Nat.le_of_ble_eq_true rfl, Nat.le_of_ble_eq_true rfl⟩) (g5_preS hPc hK hDc hN hT hS hFc) rfl rfl hl.1 rfl (lv_room (Nat.le_of_ble_eq_true rfl)) dX8_cut_84 ⟨Nat.le_of_ble_eq_true rfl, Nat.le_of_ble_eq_true rfl⟩) hS (fun q _ h => hFc q h) hFc (fun r u t H locs ht hvm hw hB hz1 hk1 hS => ?_)
            obtain ⟨hP1, hD1⟩ := hB
            have hP1 := g5_ht ht hP1
            obtain ⟨z25, (i_24 : z25.toInt = kdT f_x p_n.toInt.toNat k_a.toInt.toNat), y26, rfl⟩ := hw
            have hJ9 := va_join (wr := [(a_tk, (oc8 a_kd a_nm a_pl)), (a_kd, (arI G 401 k_kd)), (a_nm, (arI G 401 (upd k_nm k_t.toNatClampNeg z22))), (a_pl, (arI G 401 (upd k_pl k_t.toNatClampNeg k_a)))]) hP hD [4] [0, 1, 2, 3] rfl rfl (by decide +kernel) (by decide +kernel) hk1 hFc hP1 hD1
            clear hP hD hPc hDc hFc ht hvm hz1 hk1 hP1 hD1
            obtain ⟨hP, hD⟩ := hJ9
            refine g5_rs [(a_tk, (oc8 a_kd a_nm a_pl)), (a_kd, (arI G 401 k_kd)), (a_nm, (arI G 401 (upd k_nm k_t.toNatClampNeg z22))), (a_pl, (arI G 401 (upd k_pl k_t.toNatClampNeg k_a))), (a_x, (arI G 400 f_x))] hP hD ?_
            clear hP hD
            intro hP hD
            refine g5_ti (v := z25) y26 ?_
            refine va_iast hx hb hK hP hD hS 1 0 rfl rfl (i := k_t) (x := z25) (vp_in_iff.mpr ⟨by omega, by omega⟩) dX8_cut_87 ?_
            clear hP hD hS
            intro H locs hP hD hS
            refine g5_rs [(a_tk, (oc8 a_kd a_nm a_pl)), (a_kd, (arI G 401 (upd k_kd k_t.toNatClampNeg z25))), (a_nm, (arI G 401 (upd k_nm k_t.toNatClampNeg z22))), (a_pl, (arI G 401 (upd k_pl k_t.toNatClampNeg k_a))), (a_x, (arI G 400 f_x))] hP hD ?_
            clear hP hD
            intro hP hD
            refine W.eq (g2 := F0 m 88 ls []) rfl ?_
            refine lv_iinc (v := (k_t + 1)) (lv' := [(3, .int (k_t + 1)), (6, .int z14), (4, .int k_a), (5, .int k_i), (0, .ref a_tk), (1, .ref a_x), (2, .int p_n)]) hx hb dX8_cut_88 hl (k := 1) rfl rfl (by decide +kernel) rfl ?_
            clear hl
            intro ls hl
            have t_27 : (k_t + 1).toInt = k_t.toInt + 1 := g5_iadd (a := k_t.toInt) (b := 1) rfl (by decide +kernel) (by omega) (by omega)
            refine lv_iload hx hb dX8_cut_91 (lv_at hl 1 rfl) ?_
            refine lv_istore (lv' := [(4, .int z14), (3, .int (k_t + 1)), (6, .int z14), (5, .int k_i), (0, .ref a_tk), (1, .ref a_x), (2, .int p_n)]) hx hb dX8_cut_93 hl (by decide +kernel) rfl ?_
            clear hl
            intro ls hl
            refine lv_iinc (v := (k_i + 1)) (lv' := [(5, .int (k_i + 1)), (4, .int z14), (3, .int (k_t + 1)), (6, .int z14), (0, .ref a_tk), (1, .ref a_x), (2, .int p_n)]) hx hb dX8_cut_95 hl (k := 3) rfl rfl (by decide +kernel) rfl ?_
            clear hl
            intro ls hl
            have t_28 : (k_i + 1).toInt = k_i.toInt + 1 := g5_iadd (a := k_i.toInt) (b := 1) rfl (by decide +kernel) (by omega) (by omega)
            refine lv_goto (tgt := 8) hx hb dX8_cut_98 (by decide +kernel) ?_
            exact ih_8_9 ((k_t + 1), z14, (k_i + 1), (upd k_kd k_t.toNatClampNeg z25), (upd k_nm k_t.toNatClampNeg z22), (upd k_pl k_t.toNatClampNeg k_a)) ls H locs (show Int.toNat (400 - (k_i + 1).toInt) < Int.toNat (400 - k_i.toInt) from g_up (show k_i.toInt < (k_i + 1).toInt by omega) (show k_i.toInt < 400 by omega)) ⟨lv_sub hl [2, 1, 0, 4, 5, 6] rfl, hP, hD, hS, ⟨by omega, by omega⟩, ⟨by omega, by omega⟩, ⟨by omega, by omega⟩, by omega, by omega, toki_k i_6 i_24 (nc_v (by omega) i_13 i_18 i_21), tka_S i_7 i_8 (by first | omega | (unfold gNe at *; omega)) (by first | omega | (unfold gNe at *; omega)) (by first | omega | (unfold gNe at *; omega)) (by first | omega | (unfold gNe at *; omega)) i_24 (nc_v (by first | omega | (unfold gNe at *; omega)) i_13 i_18 i_21), cut_tk i_8 (by first | omega | (unfold gNe at *; omega)) (by first | omega | (unfold gNe at *; omega)) (by first | omega | (unfold gNe at *; omega)) (by first | omega | (unfold gNe at *; omega)) (by first | omega | (unfold gNe at *; omega)) i_13⟩
        ·
          have hJ9 := g5_same hP hk1
          clear hP hPc hDc hFc ht hvm hz1 hk1 hP1 hD1
          have hP := hJ9
          clear hJ9
          refine lv_if_eq (tgt := 72) hx hb dX8_cut_58 (by decide +kernel) (fun c_29 => ?_) (fun c_29 => ?_)
          ·
            refine lv_iconst (v := 0) hx hb dX8_cut_72 (by decide +kernel) ?_
            refine va_iast hx hb hK hP hD hS 2 0 rfl rfl (i := k_t) (x := 0) (vp_in_iff.mpr ⟨by omega, by omega⟩) dX8_cut_73 ?_
            clear hP hD hS
            intro H locs hP hD hS
            refine g5_rs [(a_tk, (oc8 a_kd a_nm a_pl)), (a_kd, (arI G 401 k_kd)), (a_nm, (arI G 401 (upd k_nm k_t.toNatClampNeg 0))), (a_pl, (arI G 401 (upd k_pl k_t.toNatClampNeg k_a))), (a_x, (arI G 400 f_x))] hP hD ?_
            clear hP hD
            intro hP hD
            refine lv_aload_n hx hb dX8_cut_74 rfl (lv_at hl 4 rfl) ?_
            refine va_get (D := G.1) (ci := 8) (v := .ref a_kd) (C := RX8) (T := TX8) (N := 3) hx hb hts inG_X8 hown hK hP 0 rfl rfl 0 (by decide +kernel) (hts _ fl_X8_9) (fun _ h9 => h9) rfl dX8_cut_75 ?_
            refine W.eq (g2 := F0 m 78 ls [.ref a_kd]) rfl ?_
            refine lv_iload_n hx hb dX8_cut_78 rfl (lv_at hl 1 rfl) ?_
            refine lv_aload_n hx hb dX8_cut_79 rfl (lv_at hl 5 rfl) ?_
            refine lv_iload hx hb dX8_cut_80 (lv_at hl 2 rfl) ?_
            refine lv_iload hx hb dX8_cut_82 (lv_at hl 0 rfl) ?_
            obtain ⟨hPc, hDc, hFc⟩ := g5_sub3 (wc := [(a_x, (arI G 400 f_x))]) hP hD hS hA [4] (by decide +kernel) rfl
            refine va_calli (va_runS (As := [.ref a_x, .int k_a, .int z14]) (rest := [.int k_t, .ref a_kd]) ⟨hx, hb, hml, hown, hts⟩ (k_kindOfX l G a_x H.size k_a z14 f_x p_n.toInt.toNat ⟨by omega, by omega⟩ ⟨by omega, by omega⟩ (i_13) (by omega)) (va_cwS 3 hts gS_X8_32 rfl rfl rfl hs_X8_kindOf ⟨Nat.le_of_ble_eq_true rfl, Nat.le_of_ble_eq_true rfl⟩) (g5_preS hPc hK hDc hN hT hS hFc) rfl rfl hl.1 rfl (lv_room (Nat.le_of_ble_eq_true rfl)) dX8_cut_84 ⟨Nat.le_of_ble_eq_true rfl, Nat.le_of_ble_eq_true rfl⟩) hS (fun q _ h => hFc q h) hFc (fun r u t H locs ht hvm hw hB hz1 hk1 hS => ?_)
            obtain ⟨hP1, hD1⟩ := hB
            have hP1 := g5_ht ht hP1
            obtain ⟨z31, (i_30 : z31.toInt = kdT f_x p_n.toInt.toNat k_a.toInt.toNat), y32, rfl⟩ := hw
            have hJ9 := va_join (wr := [(a_tk, (oc8 a_kd a_nm a_pl)), (a_kd, (arI G 401 k_kd)), (a_nm, (arI G 401 (upd k_nm k_t.toNatClampNeg 0))), (a_pl, (arI G 401 (upd k_pl k_t.toNatClampNeg k_a)))]) hP hD [4] [0, 1, 2, 3] rfl rfl (by decide +kernel) (by decide +kernel) hk1 hFc hP1 hD1
            clear hP hD hPc hDc hFc ht hvm hz1 hk1 hP1 hD1
            obtain ⟨hP, hD⟩ := hJ9
            refine g5_rs [(a_tk, (oc8 a_kd a_nm a_pl)), (a_kd, (arI G 401 k_kd)), (a_nm, (arI G 401 (upd k_nm k_t.toNatClampNeg 0))), (a_pl, (arI G 401 (upd k_pl k_t.toNatClampNeg k_a))), (a_x, (arI G 400 f_x))] hP hD ?_
            clear hP hD
            intro hP hD
            refine g5_ti (v := z31) y32 ?_
            refine W.eq (g2 := F0 m 87 ls [.int z31, .int k_t, .ref a_kd]) rfl ?_
            refine va_iast hx hb hK hP hD hS 1 0 rfl rfl (i := k_t) (x := z31) (vp_in_iff.mpr ⟨by omega, by omega⟩) dX8_cut_87 ?_
            clear hP hD hS
            intro H locs hP hD hS
            refine g5_rs [(a_tk, (oc8 a_kd a_nm a_pl)), (a_kd, (arI G 401 (upd k_kd k_t.toNatClampNeg z31))), (a_nm, (arI G 401 (upd k_nm k_t.toNatClampNeg 0))), (a_pl, (arI G 401 (upd k_pl k_t.toNatClampNeg k_a))), (a_x, (arI G 400 f_x))] hP hD ?_
            clear hP hD
            intro hP hD
            refine lv_iinc (v := (k_t + 1)) (lv' := [(3, .int (k_t + 1)), (6, .int z14), (4, .int k_a), (5, .int k_i), (0, .ref a_tk), (1, .ref a_x), (2, .int p_n)]) hx hb dX8_cut_88 hl (k := 1) rfl rfl (by decide +kernel) rfl ?_
            clear hl
            intro ls hl
            have t_33 : (k_t + 1).toInt = k_t.toInt + 1 := g5_iadd (a := k_t.toInt) (b := 1) rfl (by decide +kernel) (by omega) (by omega)
            refine lv_iload hx hb dX8_cut_91 (lv_at hl 1 rfl) ?_
            refine lv_istore (lv' := [(4, .int z14), (3, .int (k_t + 1)), (6, .int z14), (5, .int k_i), (0, .ref a_tk), (1, .ref a_x), (2, .int p_n)]) hx hb dX8_cut_93 hl (by decide +kernel) rfl ?_
            clear hl
            intro ls hl
            refine lv_iinc (v := (k_i + 1)) (lv' := [(5, .int (k_i + 1)), (4, .int z14), (3, .int (k_t + 1)), (6, .int z14), (0, .ref a_tk), (1, .ref a_x), (2, .int p_n)]) hx hb dX8_cut_95 hl (k := 3) rfl rfl (by decide +kernel) rfl ?_
            clear hl
            intro ls hl
            have t_34 : (k_i + 1).toInt = k_i.toInt + 1 := g5_iadd (a := k_i.toInt) (b := 1) rfl (by decide +kernel) (by omega) (by omega)
            refine W.eq (g2 := F0 m 98 ls []) rfl ?_
            refine lv_goto (tgt := 8) hx hb dX8_cut_98 (by decide +kernel) ?_
            exact ih_8_9 ((k_t + 1), z14, (k_i + 1), (upd k_kd k_t.toNatClampNeg z31), (upd k_nm k_t.toNatClampNeg 0), (upd k_pl k_t.toNatClampNeg k_a)) ls H locs (show Int.toNat (400 - (k_i + 1).toInt) < Int.toNat (400 - k_i.toInt) from g_up (show k_i.toInt < (k_i + 1).toInt by omega) (show k_i.toInt < 400 by omega)) ⟨lv_sub hl [2, 1, 0, 4, 5, 6] rfl, hP, hD, hS, ⟨by omega, by omega⟩, ⟨by omega, by omega⟩, ⟨by omega, by omega⟩, by omega, by omega, toki_k i_6 i_30 (nc_0 i_19), tka_S i_7 i_8 (by first | omega | (unfold gNe at *; omega)) (by first | omega | (unfold gNe at *; omega)) (by first | omega | (unfold gNe at *; omega)) (by first | omega | (unfold gNe at *; omega)) i_30 (nc_0 i_19), cut_tk i_8 (by first | omega | (unfold gNe at *; omega)) (by first | omega | (unfold gNe at *; omega)) (by first | omega | (unfold gNe at *; omega)) (by first | omega | (unfold gNe at *; omega)) (by first | omega | (unfold gNe at *; omega)) i_13⟩
          ·
            exact absurd c_29 (by decide +kernel)
set_option maxHeartbeats 4000000 in
set_option maxRecDepth 100000 in
theorem r_isNextX91 (l : Launch) (G : g5_G) (a_r a_tk a_kd a_rh a_rs a_rc a_nm a_pl : Nat) (sz : Nat) (e_ln : Int32) (e_pa : Int32) (e_at : Int32) (e_fp : Int32) (f_kd : Nat → Int32) (h_e_ln : 0 ≤ e_ln.toInt ∧ e_ln.toInt ≤ 400) (h_e_pa : 0 ≤ e_pa.toInt ∧ e_pa.toInt ≤ 50) (h_e_at : 0 ≤ e_at.toInt ∧ e_at.toInt ≤ 401) (e_a4 : e_at.toInt ≤ 400) : Met l yX4_isNext (wsG yX4_isNext cX4_isNext 2 (some .boolean)) ({ frames := 0, cells := 0, slots := 0, locals := 0 }) (va_Pc [.ref a_r, .int 91] (g5_P G [(a_r, (oc4 a_tk a_rh a_rs a_rc e_ln e_pa e_at e_fp)), (a_tk, (oc8 a_kd a_nm a_pl)), (a_kd, (arI G 401 f_kd))] sz)) (va_Qi (fun (r : Int32) (u : va_W) => (((f_kd e_at.toNatClampNeg).toInt = 91) ∧ (r = 1) ∧ (u = [(a_r, (oc4 a_tk a_rh a_rs a_rc e_ln e_pa e_at e_fp)), (a_tk, (oc8 a_kd a_nm a_pl)), (a_kd, (arI G 401 f_kd))])) ∨ ((gNe (f_kd e_at.toNatClampNeg).toInt 91) ∧ (r = 0) ∧ (u = [(a_r, (oc4 a_tk a_rh a_rs a_rc e_ln e_pa e_at e_fp)), (a_tk, (oc8 a_kd a_nm a_pl)), (a_kd, (arI G 401 f_kd))]))) (g5_B G (va_A [(a_r, (oc4 a_tk a_rh a_rs a_rc e_ln e_pa e_at e_fp)), (a_tk, (oc8 a_kd a_nm a_pl)), (a_kd, (arI G 401 f_kd))] sz)) (va_A [(a_r, (oc4 a_tk a_rh a_rs a_rc e_ln e_pa e_at e_fp)), (a_tk, (oc8 a_kd a_nm a_pl)), (a_kd, (arI G 401 f_kd))] sz)) 0 0 (va_A [(a_r, (oc4 a_tk a_rh a_rs a_rc e_ln e_pa e_at e_fp)), (a_tk, (oc8 a_kd a_nm a_pl)), (a_kd, (arI G 401 f_kd))] sz) := by
  refine Met.ofW (cc := cX4_isNext) (maxL := 2) (ret := (some .boolean)) (by decide) rfl ?_
  intro p e s m args below meth c s₁ B hml hv
  obtain ⟨rfl, hsz, hP, hK, hD0, hN, hT⟩ := hv
  have hx := B.exec
  have hb := B.bytes
  have hr := B.returns
  have hts : ∀ w ∈ tblG, w.before _ s = true := fun w h => atoms_spec (ws := (wsG yX4_isNext cX4_isNext 2 (some .boolean))) B.pre w (List.mem_cons_of_mem _ h)
  have hown : s.vm.findClass RX4 = some m.cls := findClass_of_methodNamed B.named
  have hlocks := B.notSynchronized
  subst hsz
  have hD := hD0.self (sz := s.heap.size)
  generalize hAe : va_A [(a_r, (oc4 a_tk a_rh a_rs a_rc e_ln e_pa e_at e_fp)), (a_tk, (oc8 a_kd a_nm a_pl)), (a_kd, (arI G 401 f_kd))] s.heap.size = A at hD hT ⊢
  have hA : ∀ q : Nat, s.heap.size ≤ q → A q := fun q h => by rw [← hAe]; exact Or.inr h
  have hS : va_S A s.heap s.heap [] := va_S.rf
  have hP : va_P G.1 vwCl [(a_r, (oc4 a_tk a_rh a_rs a_rc e_ln e_pa e_at e_fp)), (a_tk, (oc8 a_kd a_nm a_pl)), (a_kd, (arI G 401 f_kd))] s.heap := hP
  have hl := lv_entry ([.ref a_r, .int 91]) (n := 2) (Nat.le_of_ble_eq_true rfl)
  rw [lg_entry_eq]
  generalize (lg_sl ([.ref a_r, .int 91]) ++ List.replicate (2 - (lg_sl ([.ref a_r, .int 91])).length) Slot.unset).toArray = ls at hl ⊢
  have hl : lv_has ls 2 [(0, .ref a_r), (1, .int 91)] := hl
  refine lv_aload_n hx hb dX4_isNext_0 rfl (lv_at hl 0 rfl) ?_
  refine va_get (D := G.1) (ci := 4) (v := .int e_at) (C := RX4) (T := TX4) (N := 8) hx hb hts inG_X4 hown hK hP 0 rfl rfl 6 (by decide) (hts _ fl_X4_42) (fun _ h9 => h9) rfl dX4_isNext_1 ?_
  refine lv_aload_n hx hb dX4_isNext_4 rfl (lv_at hl 0 rfl) ?_
  refine va_get (D := G.1) (ci := 4) (v := .ref a_tk) (C := RX4) (T := TX4) (N := 8) hx hb hts inG_X4 hown hK hP 0 rfl rfl 0 (by decide) (hts _ fl_X4_12) (fun _ h9 => h9) rfl dX4_isNext_5 ?_
  refine W.eq (g2 := F0 m 8 ls [.ref a_tk, .int e_at]) rfl ?_
  refine va_get (D := G.1) (ci := 8) (v := .ref a_kd) (C := RX8) (T := TX8) (N := 3) hx hb hts inG_X8 hown hK hP 1 rfl rfl 0 (by decide) (hts _ fl_X4_96) (fun _ h9 => h9) rfl dX4_isNext_8 ?_
  refine va_alen hx hb hK hP 2 0 rfl rfl (v := 401) (by show Int32.ofNat 401 = 401; decide) dX4_isNext_11 ?_
  refine lv_icmp_ge (tgt := 35) hx hb dX4_isNext_12 (by decide) (fun c_1 => ?_) (fun c_1 => ?_)
  ·
    have i_1 : e_at.toInt ≥ 401 := by have z := g5_ge (a := e_at.toInt) (b := 401) (by rfl) (by decide) c_1; omega
    refine lv_iconst (v := 0) hx hb dX4_isNext_35 (by decide) ?_
    exact W.zret (v := 0) hx hb hr rfl (fun t ht hW => ⟨⟨0, [(a_r, (oc4 a_tk a_rh a_rs a_rc e_ln e_pa e_at e_fp)), (a_tk, (oc8 a_kd a_nm a_pl)), (a_kd, (arI G 401 f_kd))], rfl, Or.inr (⟨by unfold gNe at *; omega, rfl, rfl⟩), by rw [ht]; exact hP.sub [0, 1, 2] rfl, hD.sub [0, 1, 2] (by decide) rfl⟩, hS.F ht⟩) hS.2.2 dX4_isNext_36
  ·
    have i_1 : e_at.toInt < 401 := by have z := g5_geN (a := e_at.toInt) (b := 401) (by rfl) (by decide) c_1; omega
    refine lv_aload_n hx hb dX4_isNext_15 rfl (lv_at hl 0 rfl) ?_
    refine va_get (D := G.1) (ci := 4) (v := .ref a_tk) (C := RX4) (T := TX4) (N := 8) hx hb hts inG_X4 hown hK hP 0 rfl rfl 0 (by decide) (hts _ fl_X4_12) (fun _ h9 => h9) rfl dX4_isNext_16 ?_
    refine va_get (D := G.1) (ci := 8) (v := .ref a_kd) (C := RX8) (T := TX8) (N := 3) hx hb hts inG_X8 hown hK hP 1 rfl rfl 0 (by decide) (hts _ fl_X4_96) (fun _ h9 => h9) rfl dX4_isNext_19 ?_
    refine lv_aload_n hx hb dX4_isNext_22 rfl (lv_at hl 0 rfl) ?_
    refine W.eq (g2 := F0 m 23 ls [.ref a_r, .ref a_kd]) rfl ?_
    refine va_get (D := G.1) (ci := 4) (v := .int e_at) (C := RX4) (T := TX4) (N := 8) hx hb hts inG_X4 hown hK hP 0 rfl rfl 6 (by decide) (hts _ fl_X4_42) (fun _ h9 => h9) rfl dX4_isNext_23 ?_
    refine va_iald hx hb hK hP 2 0 rfl rfl (i := e_at) (vp_in_iff.mpr ⟨by omega, by omega⟩) dX4_isNext_26 ?_
    refine lv_iload_n hx hb dX4_isNext_27 rfl (lv_at hl 1 rfl) ?_
    refine lv_icmp_ne (tgt := 35) hx hb dX4_isNext_28 (by decide) (fun c_2 => ?_) (fun c_2 => ?_)
    ·
      have n_2 : gNe ((f_kd e_at.toNatClampNeg).toInt) (91) := by have z := g5_ne (a := (f_kd e_at.toNatClampNeg).toInt) (b := 91) (by rfl) (by decide) c_2; unfold gNe; omega
      refine lv_iconst (v := 0) hx hb dX4_isNext_35 (by decide) ?_
      exact W.zret (v := 0) hx hb hr rfl (fun t ht hW => ⟨⟨0, [(a_r, (oc4 a_tk a_rh a_rs a_rc e_ln e_pa e_at e_fp)), (a_tk, (oc8 a_kd a_nm a_pl)), (a_kd, (arI G 401 f_kd))], rfl, Or.inr (⟨by unfold gNe at *; omega, rfl, rfl⟩), by rw [ht]; exact hP.sub [0, 1, 2] rfl, hD.sub [0, 1, 2] (by decide) rfl⟩, hS.F ht⟩) hS.2.2 dX4_isNext_36
    ·
      have i_2 : (f_kd e_at.toNatClampNeg).toInt = 91 := by have z := g5_neN (a := (f_kd e_at.toNatClampNeg).toInt) (b := 91) (by rfl) (by decide) c_2; omega
      refine lv_iconst (v := 1) hx hb dX4_isNext_31 (by decide) ?_
      refine lv_goto (tgt := 36) hx hb dX4_isNext_32 (by decide) ?_
      exact W.zret (v := 1) hx hb hr rfl (fun t ht hW => ⟨⟨1, [(a_r, (oc4 a_tk a_rh a_rs a_rc e_ln e_pa e_at e_fp)), (a_tk, (oc8 a_kd a_nm a_pl)), (a_kd, (arI G 401 f_kd))], rfl, Or.inl (⟨by omega, rfl, rfl⟩), by rw [ht]; exact hP.sub [0, 1, 2] rfl, hD.sub [0, 1, 2] (by decide) rfl⟩, hS.F ht⟩) hS.2.2 dX4_isNext_36
set_option maxHeartbeats 4000000 in
set_option maxRecDepth 100000 in
theorem r_isNextX40 (l : Launch) (G : g5_G) (a_r a_tk a_kd a_rh a_rs a_rc a_nm a_pl : Nat) (sz : Nat) (e_ln : Int32) (e_pa : Int32) (e_at : Int32) (e_fp : Int32) (f_kd : Nat → Int32) (h_e_ln : 0 ≤ e_ln.toInt ∧ e_ln.toInt ≤ 400) (h_e_pa : 0 ≤ e_pa.toInt ∧ e_pa.toInt ≤ 50) (h_e_at : 0 ≤ e_at.toInt ∧ e_at.toInt ≤ 401) (e_a4 : e_at.toInt ≤ 400) : Met l yX4_isNext (wsG yX4_isNext cX4_isNext 2 (some .boolean)) ({ frames := 0, cells := 0, slots := 0, locals := 0 }) (va_Pc [.ref a_r, .int 40] (g5_P G [(a_r, (oc4 a_tk a_rh a_rs a_rc e_ln e_pa e_at e_fp)), (a_tk, (oc8 a_kd a_nm a_pl)), (a_kd, (arI G 401 f_kd))] sz)) (va_Qi (fun (r : Int32) (u : va_W) => (((f_kd e_at.toNatClampNeg).toInt = 40) ∧ (r = 1) ∧ (u = [(a_r, (oc4 a_tk a_rh a_rs a_rc e_ln e_pa e_at e_fp)), (a_tk, (oc8 a_kd a_nm a_pl)), (a_kd, (arI G 401 f_kd))])) ∨ ((gNe (f_kd e_at.toNatClampNeg).toInt 40) ∧ (r = 0) ∧ (u = [(a_r, (oc4 a_tk a_rh a_rs a_rc e_ln e_pa e_at e_fp)), (a_tk, (oc8 a_kd a_nm a_pl)), (a_kd, (arI G 401 f_kd))]))) (g5_B G (va_A [(a_r, (oc4 a_tk a_rh a_rs a_rc e_ln e_pa e_at e_fp)), (a_tk, (oc8 a_kd a_nm a_pl)), (a_kd, (arI G 401 f_kd))] sz)) (va_A [(a_r, (oc4 a_tk a_rh a_rs a_rc e_ln e_pa e_at e_fp)), (a_tk, (oc8 a_kd a_nm a_pl)), (a_kd, (arI G 401 f_kd))] sz)) 0 0 (va_A [(a_r, (oc4 a_tk a_rh a_rs a_rc e_ln e_pa e_at e_fp)), (a_tk, (oc8 a_kd a_nm a_pl)), (a_kd, (arI G 401 f_kd))] sz) := by
  refine Met.ofW (cc := cX4_isNext) (maxL := 2) (ret := (some .boolean)) (by decide) rfl ?_
  intro p e s m args below meth c s₁ B hml hv
  obtain ⟨rfl, hsz, hP, hK, hD0, hN, hT⟩ := hv
  have hx := B.exec
  have hb := B.bytes
  have hr := B.returns
  have hts : ∀ w ∈ tblG, w.before _ s = true := fun w h => atoms_spec (ws := (wsG yX4_isNext cX4_isNext 2 (some .boolean))) B.pre w (List.mem_cons_of_mem _ h)
  have hown : s.vm.findClass RX4 = some m.cls := findClass_of_methodNamed B.named
  have hlocks := B.notSynchronized
  subst hsz
  have hD := hD0.self (sz := s.heap.size)
  generalize hAe : va_A [(a_r, (oc4 a_tk a_rh a_rs a_rc e_ln e_pa e_at e_fp)), (a_tk, (oc8 a_kd a_nm a_pl)), (a_kd, (arI G 401 f_kd))] s.heap.size = A at hD hT ⊢
  have hA : ∀ q : Nat, s.heap.size ≤ q → A q := fun q h => by rw [← hAe]; exact Or.inr h
  have hS : va_S A s.heap s.heap [] := va_S.rf
  have hP : va_P G.1 vwCl [(a_r, (oc4 a_tk a_rh a_rs a_rc e_ln e_pa e_at e_fp)), (a_tk, (oc8 a_kd a_nm a_pl)), (a_kd, (arI G 401 f_kd))] s.heap := hP
  have hl := lv_entry ([.ref a_r, .int 40]) (n := 2) (Nat.le_of_ble_eq_true rfl)
  rw [lg_entry_eq]
  generalize (lg_sl ([.ref a_r, .int 40]) ++ List.replicate (2 - (lg_sl ([.ref a_r, .int 40])).length) Slot.unset).toArray = ls at hl ⊢
  have hl : lv_has ls 2 [(0, .ref a_r), (1, .int 40)] := hl
  refine lv_aload_n hx hb dX4_isNext_0 rfl (lv_at hl 0 rfl) ?_
  refine va_get (D := G.1) (ci := 4) (v := .int e_at) (C := RX4) (T := TX4) (N := 8) hx hb hts inG_X4 hown hK hP 0 rfl rfl 6 (by decide) (hts _ fl_X4_42) (fun _ h9 => h9) rfl dX4_isNext_1 ?_
  refine lv_aload_n hx hb dX4_isNext_4 rfl (lv_at hl 0 rfl) ?_
  refine va_get (D := G.1) (ci := 4) (v := .ref a_tk) (C := RX4) (T := TX4) (N := 8) hx hb hts inG_X4 hown hK hP 0 rfl rfl 0 (by decide) (hts _ fl_X4_12) (fun _ h9 => h9) rfl dX4_isNext_5 ?_
  refine W.eq (g2 := F0 m 8 ls [.ref a_tk, .int e_at]) rfl ?_
  refine va_get (D := G.1) (ci := 8) (v := .ref a_kd) (C := RX8) (T := TX8) (N := 3) hx hb hts inG_X8 hown hK hP 1 rfl rfl 0 (by decide) (hts _ fl_X4_96) (fun _ h9 => h9) rfl dX4_isNext_8 ?_
  refine va_alen hx hb hK hP 2 0 rfl rfl (v := 401) (by show Int32.ofNat 401 = 401; decide) dX4_isNext_11 ?_
  refine lv_icmp_ge (tgt := 35) hx hb dX4_isNext_12 (by decide) (fun c_1 => ?_) (fun c_1 => ?_)
  ·
    have i_1 : e_at.toInt ≥ 401 := by have z := g5_ge (a := e_at.toInt) (b := 401) (by rfl) (by decide) c_1; omega
    refine lv_iconst (v := 0) hx hb dX4_isNext_35 (by decide) ?_
    exact W.zret (v := 0) hx hb hr rfl (fun t ht hW => ⟨⟨0, [(a_r, (oc4 a_tk a_rh a_rs a_rc e_ln e_pa e_at e_fp)), (a_tk, (oc8 a_kd a_nm a_pl)), (a_kd, (arI G 401 f_kd))], rfl, Or.inr (⟨by unfold gNe at *; omega, rfl, rfl⟩), by rw [ht]; exact hP.sub [0, 1, 2] rfl, hD.sub [0, 1, 2] (by decide) rfl⟩, hS.F ht⟩) hS.2.2 dX4_isNext_36
  ·
    have i_1 : e_at.toInt < 401 := by have z := g5_geN (a := e_at.toInt) (b := 401) (by rfl) (by decide) c_1; omega
    refine lv_aload_n hx hb dX4_isNext_15 rfl (lv_at hl 0 rfl) ?_
    refine va_get (D := G.1) (ci := 4) (v := .ref a_tk) (C := RX4) (T := TX4) (N := 8) hx hb hts inG_X4 hown hK hP 0 rfl rfl 0 (by decide) (hts _ fl_X4_12) (fun _ h9 => h9) rfl dX4_isNext_16 ?_
    refine va_get (D := G.1) (ci := 8) (v := .ref a_kd) (C := RX8) (T := TX8) (N := 3) hx hb hts inG_X8 hown hK hP 1 rfl rfl 0 (by decide) (hts _ fl_X4_96) (fun _ h9 => h9) rfl dX4_isNext_19 ?_
    refine lv_aload_n hx hb dX4_isNext_22 rfl (lv_at hl 0 rfl) ?_
    refine W.eq (g2 := F0 m 23 ls [.ref a_r, .ref a_kd]) rfl ?_
    refine va_get (D := G.1) (ci := 4) (v := .int e_at) (C := RX4) (T := TX4) (N := 8) hx hb hts inG_X4 hown hK hP 0 rfl rfl 6 (by decide) (hts _ fl_X4_42) (fun _ h9 => h9) rfl dX4_isNext_23 ?_
    refine va_iald hx hb hK hP 2 0 rfl rfl (i := e_at) (vp_in_iff.mpr ⟨by omega, by omega⟩) dX4_isNext_26 ?_
    refine lv_iload_n hx hb dX4_isNext_27 rfl (lv_at hl 1 rfl) ?_
    refine lv_icmp_ne (tgt := 35) hx hb dX4_isNext_28 (by decide) (fun c_2 => ?_) (fun c_2 => ?_)
    ·
      have n_2 : gNe ((f_kd e_at.toNatClampNeg).toInt) (40) := by have z := g5_ne (a := (f_kd e_at.toNatClampNeg).toInt) (b := 40) (by rfl) (by decide) c_2; unfold gNe; omega
      refine lv_iconst (v := 0) hx hb dX4_isNext_35 (by decide) ?_
      exact W.zret (v := 0) hx hb hr rfl (fun t ht hW => ⟨⟨0, [(a_r, (oc4 a_tk a_rh a_rs a_rc e_ln e_pa e_at e_fp)), (a_tk, (oc8 a_kd a_nm a_pl)), (a_kd, (arI G 401 f_kd))], rfl, Or.inr (⟨by unfold gNe at *; omega, rfl, rfl⟩), by rw [ht]; exact hP.sub [0, 1, 2] rfl, hD.sub [0, 1, 2] (by decide) rfl⟩, hS.F ht⟩) hS.2.2 dX4_isNext_36
    ·
      have i_2 : (f_kd e_at.toNatClampNeg).toInt = 40 := by have z := g5_neN (a := (f_kd e_at.toNatClampNeg).toInt) (b := 40) (by rfl) (by decide) c_2; omega
      refine lv_iconst (v := 1) hx hb dX4_isNext_31 (by decide) ?_
      refine lv_goto (tgt := 36) hx hb dX4_isNext_32 (by decide) ?_
      exact W.zret (v := 1) hx hb hr rfl (fun t ht hW => ⟨⟨1, [(a_r, (oc4 a_tk a_rh a_rs a_rc e_ln e_pa e_at e_fp)), (a_tk, (oc8 a_kd a_nm a_pl)), (a_kd, (arI G 401 f_kd))], rfl, Or.inl (⟨by omega, rfl, rfl⟩), by rw [ht]; exact hP.sub [0, 1, 2] rfl, hD.sub [0, 1, 2] (by decide) rfl⟩, hS.F ht⟩) hS.2.2 dX4_isNext_36
set_option maxHeartbeats 4000000 in
set_option maxRecDepth 100000 in
theorem r_isNextX43 (l : Launch) (G : g5_G) (a_r a_tk a_kd a_rh a_rs a_rc a_nm a_pl : Nat) (sz : Nat) (e_ln : Int32) (e_pa : Int32) (e_at : Int32) (e_fp : Int32) (f_kd : Nat → Int32) (h_e_ln : 0 ≤ e_ln.toInt ∧ e_ln.toInt ≤ 400) (h_e_pa : 0 ≤ e_pa.toInt ∧ e_pa.toInt ≤ 50) (h_e_at : 0 ≤ e_at.toInt ∧ e_at.toInt ≤ 401) (e_a4 : e_at.toInt ≤ 400) : Met l yX4_isNext (wsG yX4_isNext cX4_isNext 2 (some .boolean)) ({ frames := 0, cells := 0, slots := 0, locals := 0 }) (va_Pc [.ref a_r, .int 43] (g5_P G [(a_r, (oc4 a_tk a_rh a_rs a_rc e_ln e_pa e_at e_fp)), (a_tk, (oc8 a_kd a_nm a_pl)), (a_kd, (arI G 401 f_kd))] sz)) (va_Qi (fun (r : Int32) (u : va_W) => (((f_kd e_at.toNatClampNeg).toInt = 43) ∧ (r = 1) ∧ (u = [(a_r, (oc4 a_tk a_rh a_rs a_rc e_ln e_pa e_at e_fp)), (a_tk, (oc8 a_kd a_nm a_pl)), (a_kd, (arI G 401 f_kd))])) ∨ ((gNe (f_kd e_at.toNatClampNeg).toInt 43) ∧ (r = 0) ∧ (u = [(a_r, (oc4 a_tk a_rh a_rs a_rc e_ln e_pa e_at e_fp)), (a_tk, (oc8 a_kd a_nm a_pl)), (a_kd, (arI G 401 f_kd))]))) (g5_B G (va_A [(a_r, (oc4 a_tk a_rh a_rs a_rc e_ln e_pa e_at e_fp)), (a_tk, (oc8 a_kd a_nm a_pl)), (a_kd, (arI G 401 f_kd))] sz)) (va_A [(a_r, (oc4 a_tk a_rh a_rs a_rc e_ln e_pa e_at e_fp)), (a_tk, (oc8 a_kd a_nm a_pl)), (a_kd, (arI G 401 f_kd))] sz)) 0 0 (va_A [(a_r, (oc4 a_tk a_rh a_rs a_rc e_ln e_pa e_at e_fp)), (a_tk, (oc8 a_kd a_nm a_pl)), (a_kd, (arI G 401 f_kd))] sz) := by
  refine Met.ofW (cc := cX4_isNext) (maxL := 2) (ret := (some .boolean)) (by decide) rfl ?_
  intro p e s m args below meth c s₁ B hml hv
  obtain ⟨rfl, hsz, hP, hK, hD0, hN, hT⟩ := hv
  have hx := B.exec
  have hb := B.bytes
  have hr := B.returns
  have hts : ∀ w ∈ tblG, w.before _ s = true := fun w h => atoms_spec (ws := (wsG yX4_isNext cX4_isNext 2 (some .boolean))) B.pre w (List.mem_cons_of_mem _ h)
  have hown : s.vm.findClass RX4 = some m.cls := findClass_of_methodNamed B.named
  have hlocks := B.notSynchronized
  subst hsz
  have hD := hD0.self (sz := s.heap.size)
  generalize hAe : va_A [(a_r, (oc4 a_tk a_rh a_rs a_rc e_ln e_pa e_at e_fp)), (a_tk, (oc8 a_kd a_nm a_pl)), (a_kd, (arI G 401 f_kd))] s.heap.size = A at hD hT ⊢
  have hA : ∀ q : Nat, s.heap.size ≤ q → A q := fun q h => by rw [← hAe]; exact Or.inr h
  have hS : va_S A s.heap s.heap [] := va_S.rf
  have hP : va_P G.1 vwCl [(a_r, (oc4 a_tk a_rh a_rs a_rc e_ln e_pa e_at e_fp)), (a_tk, (oc8 a_kd a_nm a_pl)), (a_kd, (arI G 401 f_kd))] s.heap := hP
  have hl := lv_entry ([.ref a_r, .int 43]) (n := 2) (Nat.le_of_ble_eq_true rfl)
  rw [lg_entry_eq]
  generalize (lg_sl ([.ref a_r, .int 43]) ++ List.replicate (2 - (lg_sl ([.ref a_r, .int 43])).length) Slot.unset).toArray = ls at hl ⊢
  have hl : lv_has ls 2 [(0, .ref a_r), (1, .int 43)] := hl
  refine lv_aload_n hx hb dX4_isNext_0 rfl (lv_at hl 0 rfl) ?_
  refine va_get (D := G.1) (ci := 4) (v := .int e_at) (C := RX4) (T := TX4) (N := 8) hx hb hts inG_X4 hown hK hP 0 rfl rfl 6 (by decide) (hts _ fl_X4_42) (fun _ h9 => h9) rfl dX4_isNext_1 ?_
  refine lv_aload_n hx hb dX4_isNext_4 rfl (lv_at hl 0 rfl) ?_
  refine va_get (D := G.1) (ci := 4) (v := .ref a_tk) (C := RX4) (T := TX4) (N := 8) hx hb hts inG_X4 hown hK hP 0 rfl rfl 0 (by decide) (hts _ fl_X4_12) (fun _ h9 => h9) rfl dX4_isNext_5 ?_
  refine W.eq (g2 := F0 m 8 ls [.ref a_tk, .int e_at]) rfl ?_
  refine va_get (D := G.1) (ci := 8) (v := .ref a_kd) (C := RX8) (T := TX8) (N := 3) hx hb hts inG_X8 hown hK hP 1 rfl rfl 0 (by decide) (hts _ fl_X4_96) (fun _ h9 => h9) rfl dX4_isNext_8 ?_
  refine va_alen hx hb hK hP 2 0 rfl rfl (v := 401) (by show Int32.ofNat 401 = 401; decide) dX4_isNext_11 ?_
  refine lv_icmp_ge (tgt := 35) hx hb dX4_isNext_12 (by decide) (fun c_1 => ?_) (fun c_1 => ?_)
  ·
    have i_1 : e_at.toInt ≥ 401 := by have z := g5_ge (a := e_at.toInt) (b := 401) (by rfl) (by decide) c_1; omega
    refine lv_iconst (v := 0) hx hb dX4_isNext_35 (by decide) ?_
    exact W.zret (v := 0) hx hb hr rfl (fun t ht hW => ⟨⟨0, [(a_r, (oc4 a_tk a_rh a_rs a_rc e_ln e_pa e_at e_fp)), (a_tk, (oc8 a_kd a_nm a_pl)), (a_kd, (arI G 401 f_kd))], rfl, Or.inr (⟨by unfold gNe at *; omega, rfl, rfl⟩), by rw [ht]; exact hP.sub [0, 1, 2] rfl, hD.sub [0, 1, 2] (by decide) rfl⟩, hS.F ht⟩) hS.2.2 dX4_isNext_36
  ·
    have i_1 : e_at.toInt < 401 := by have z := g5_geN (a := e_at.toInt) (b := 401) (by rfl) (by decide) c_1; omega
    refine lv_aload_n hx hb dX4_isNext_15 rfl (lv_at hl 0 rfl) ?_
    refine va_get (D := G.1) (ci := 4) (v := .ref a_tk) (C := RX4) (T := TX4) (N := 8) hx hb hts inG_X4 hown hK hP 0 rfl rfl 0 (by decide) (hts _ fl_X4_12) (fun _ h9 => h9) rfl dX4_isNext_16 ?_
    refine va_get (D := G.1) (ci := 8) (v := .ref a_kd) (C := RX8) (T := TX8) (N := 3) hx hb hts inG_X8 hown hK hP 1 rfl rfl 0 (by decide) (hts _ fl_X4_96) (fun _ h9 => h9) rfl dX4_isNext_19 ?_
    refine lv_aload_n hx hb dX4_isNext_22 rfl (lv_at hl 0 rfl) ?_
    refine W.eq (g2 := F0 m 23 ls [.ref a_r, .ref a_kd]) rfl ?_
    refine va_get (D := G.1) (ci := 4) (v := .int e_at) (C := RX4) (T := TX4) (N := 8) hx hb hts inG_X4 hown hK hP 0 rfl rfl 6 (by decide) (hts _ fl_X4_42) (fun _ h9 => h9) rfl dX4_isNext_23 ?_
    refine va_iald hx hb hK hP 2 0 rfl rfl (i := e_at) (vp_in_iff.mpr ⟨by omega, by omega⟩) dX4_isNext_26 ?_
    refine lv_iload_n hx hb dX4_isNext_27 rfl (lv_at hl 1 rfl) ?_
    refine lv_icmp_ne (tgt := 35) hx hb dX4_isNext_28 (by decide) (fun c_2 => ?_) (fun c_2 => ?_)
    ·
      have n_2 : gNe ((f_kd e_at.toNatClampNeg).toInt) (43) := by have z := g5_ne (a := (f_kd e_at.toNatClampNeg).toInt) (b := 43) (by rfl) (by decide) c_2; unfold gNe; omega
      refine lv_iconst (v := 0) hx hb dX4_isNext_35 (by decide) ?_
      exact W.zret (v := 0) hx hb hr rfl (fun t ht hW => ⟨⟨0, [(a_r, (oc4 a_tk a_rh a_rs a_rc e_ln e_pa e_at e_fp)), (a_tk, (oc8 a_kd a_nm a_pl)), (a_kd, (arI G 401 f_kd))], rfl, Or.inr (⟨by unfold gNe at *; omega, rfl, rfl⟩), by rw [ht]; exact hP.sub [0, 1, 2] rfl, hD.sub [0, 1, 2] (by decide) rfl⟩, hS.F ht⟩) hS.2.2 dX4_isNext_36
    ·
      have i_2 : (f_kd e_at.toNatClampNeg).toInt = 43 := by have z := g5_neN (a := (f_kd e_at.toNatClampNeg).toInt) (b := 43) (by rfl) (by decide) c_2; omega
      refine lv_iconst (v := 1) hx hb dX4_isNext_31 (by decide) ?_
      refine lv_goto (tgt := 36) hx hb dX4_isNext_32 (by decide) ?_
      exact W.zret (v := 1) hx hb hr rfl (fun t ht hW => ⟨⟨1, [(a_r, (oc4 a_tk a_rh a_rs a_rc e_ln e_pa e_at e_fp)), (a_tk, (oc8 a_kd a_nm a_pl)), (a_kd, (arI G 401 f_kd))], rfl, Or.inl (⟨by omega, rfl, rfl⟩), by rw [ht]; exact hP.sub [0, 1, 2] rfl, hD.sub [0, 1, 2] (by decide) rfl⟩, hS.F ht⟩) hS.2.2 dX4_isNext_36
set_option maxHeartbeats 4000000 in
set_option maxRecDepth 100000 in
theorem r_isNextX45 (l : Launch) (G : g5_G) (a_r a_tk a_kd a_rh a_rs a_rc a_nm a_pl : Nat) (sz : Nat) (e_ln : Int32) (e_pa : Int32) (e_at : Int32) (e_fp : Int32) (f_kd : Nat → Int32) (h_e_ln : 0 ≤ e_ln.toInt ∧ e_ln.toInt ≤ 400) (h_e_pa : 0 ≤ e_pa.toInt ∧ e_pa.toInt ≤ 50) (h_e_at : 0 ≤ e_at.toInt ∧ e_at.toInt ≤ 401) (e_a4 : e_at.toInt ≤ 400) : Met l yX4_isNext (wsG yX4_isNext cX4_isNext 2 (some .boolean)) ({ frames := 0, cells := 0, slots := 0, locals := 0 }) (va_Pc [.ref a_r, .int 45] (g5_P G [(a_r, (oc4 a_tk a_rh a_rs a_rc e_ln e_pa e_at e_fp)), (a_tk, (oc8 a_kd a_nm a_pl)), (a_kd, (arI G 401 f_kd))] sz)) (va_Qi (fun (r : Int32) (u : va_W) => (((f_kd e_at.toNatClampNeg).toInt = 45) ∧ (r = 1) ∧ (u = [(a_r, (oc4 a_tk a_rh a_rs a_rc e_ln e_pa e_at e_fp)), (a_tk, (oc8 a_kd a_nm a_pl)), (a_kd, (arI G 401 f_kd))])) ∨ ((gNe (f_kd e_at.toNatClampNeg).toInt 45) ∧ (r = 0) ∧ (u = [(a_r, (oc4 a_tk a_rh a_rs a_rc e_ln e_pa e_at e_fp)), (a_tk, (oc8 a_kd a_nm a_pl)), (a_kd, (arI G 401 f_kd))]))) (g5_B G (va_A [(a_r, (oc4 a_tk a_rh a_rs a_rc e_ln e_pa e_at e_fp)), (a_tk, (oc8 a_kd a_nm a_pl)), (a_kd, (arI G 401 f_kd))] sz)) (va_A [(a_r, (oc4 a_tk a_rh a_rs a_rc e_ln e_pa e_at e_fp)), (a_tk, (oc8 a_kd a_nm a_pl)), (a_kd, (arI G 401 f_kd))] sz)) 0 0 (va_A [(a_r, (oc4 a_tk a_rh a_rs a_rc e_ln e_pa e_at e_fp)), (a_tk, (oc8 a_kd a_nm a_pl)), (a_kd, (arI G 401 f_kd))] sz) := by
  refine Met.ofW (cc := cX4_isNext) (maxL := 2) (ret := (some .boolean)) (by decide) rfl ?_
  intro p e s m args below meth c s₁ B hml hv
  obtain ⟨rfl, hsz, hP, hK, hD0, hN, hT⟩ := hv
  have hx := B.exec
  have hb := B.bytes
  have hr := B.returns
  have hts : ∀ w ∈ tblG, w.before _ s = true := fun w h => atoms_spec (ws := (wsG yX4_isNext cX4_isNext 2 (some .boolean))) B.pre w (List.mem_cons_of_mem _ h)
  have hown : s.vm.findClass RX4 = some m.cls := findClass_of_methodNamed B.named
  have hlocks := B.notSynchronized
  subst hsz
  have hD := hD0.self (sz := s.heap.size)
  generalize hAe : va_A [(a_r, (oc4 a_tk a_rh a_rs a_rc e_ln e_pa e_at e_fp)), (a_tk, (oc8 a_kd a_nm a_pl)), (a_kd, (arI G 401 f_kd))] s.heap.size = A at hD hT ⊢
  have hA : ∀ q : Nat, s.heap.size ≤ q → A q := fun q h => by rw [← hAe]; exact Or.inr h
  have hS : va_S A s.heap s.heap [] := va_S.rf
  have hP : va_P G.1 vwCl [(a_r, (oc4 a_tk a_rh a_rs a_rc e_ln e_pa e_at e_fp)), (a_tk, (oc8 a_kd a_nm a_pl)), (a_kd, (arI G 401 f_kd))] s.heap := hP
  have hl := lv_entry ([.ref a_r, .int 45]) (n := 2) (Nat.le_of_ble_eq_true rfl)
  rw [lg_entry_eq]
  generalize (lg_sl ([.ref a_r, .int 45]) ++ List.replicate (2 - (lg_sl ([.ref a_r, .int 45])).length) Slot.unset).toArray = ls at hl ⊢
  have hl : lv_has ls 2 [(0, .ref a_r), (1, .int 45)] := hl
  refine lv_aload_n hx hb dX4_isNext_0 rfl (lv_at hl 0 rfl) ?_
  refine va_get (D := G.1) (ci := 4) (v := .int e_at) (C := RX4) (T := TX4) (N := 8) hx hb hts inG_X4 hown hK hP 0 rfl rfl 6 (by decide) (hts _ fl_X4_42) (fun _ h9 => h9) rfl dX4_isNext_1 ?_
  refine lv_aload_n hx hb dX4_isNext_4 rfl (lv_at hl 0 rfl) ?_
  refine va_get (D := G.1) (ci := 4) (v := .ref a_tk) (C := RX4) (T := TX4) (N := 8) hx hb hts inG_X4 hown hK hP 0 rfl rfl 0 (by decide) (hts _ fl_X4_12) (fun _ h9 => h9) rfl dX4_isNext_5 ?_
  refine W.eq (g2 := F0 m 8 ls [.ref a_tk, .int e_at]) rfl ?_
  refine va_get (D := G.1) (ci := 8) (v := .ref a_kd) (C := RX8) (T := TX8) (N := 3) hx hb hts inG_X8 hown hK hP 1 rfl rfl 0 (by decide) (hts _ fl_X4_96) (fun _ h9 => h9) rfl dX4_isNext_8 ?_
  refine va_alen hx hb hK hP 2 0 rfl rfl (v := 401) (by show Int32.ofNat 401 = 401; decide) dX4_isNext_11 ?_
  refine lv_icmp_ge (tgt := 35) hx hb dX4_isNext_12 (by decide) (fun c_1 => ?_) (fun c_1 => ?_)
  ·
    have i_1 : e_at.toInt ≥ 401 := by have z := g5_ge (a := e_at.toInt) (b := 401) (by rfl) (by decide) c_1; omega
    refine lv_iconst (v := 0) hx hb dX4_isNext_35 (by decide) ?_
    exact W.zret (v := 0) hx hb hr rfl (fun t ht hW => ⟨⟨0, [(a_r, (oc4 a_tk a_rh a_rs a_rc e_ln e_pa e_at e_fp)), (a_tk, (oc8 a_kd a_nm a_pl)), (a_kd, (arI G 401 f_kd))], rfl, Or.inr (⟨by unfold gNe at *; omega, rfl, rfl⟩), by rw [ht]; exact hP.sub [0, 1, 2] rfl, hD.sub [0, 1, 2] (by decide) rfl⟩, hS.F ht⟩) hS.2.2 dX4_isNext_36
  ·
    have i_1 : e_at.toInt < 401 := by have z := g5_geN (a := e_at.toInt) (b := 401) (by rfl) (by decide) c_1; omega
    refine lv_aload_n hx hb dX4_isNext_15 rfl (lv_at hl 0 rfl) ?_
    refine va_get (D := G.1) (ci := 4) (v := .ref a_tk) (C := RX4) (T := TX4) (N := 8) hx hb hts inG_X4 hown hK hP 0 rfl rfl 0 (by decide) (hts _ fl_X4_12) (fun _ h9 => h9) rfl dX4_isNext_16 ?_
    refine va_get (D := G.1) (ci := 8) (v := .ref a_kd) (C := RX8) (T := TX8) (N := 3) hx hb hts inG_X8 hown hK hP 1 rfl rfl 0 (by decide) (hts _ fl_X4_96) (fun _ h9 => h9) rfl dX4_isNext_19 ?_
    refine lv_aload_n hx hb dX4_isNext_22 rfl (lv_at hl 0 rfl) ?_
    refine W.eq (g2 := F0 m 23 ls [.ref a_r, .ref a_kd]) rfl ?_
    refine va_get (D := G.1) (ci := 4) (v := .int e_at) (C := RX4) (T := TX4) (N := 8) hx hb hts inG_X4 hown hK hP 0 rfl rfl 6 (by decide) (hts _ fl_X4_42) (fun _ h9 => h9) rfl dX4_isNext_23 ?_
    refine va_iald hx hb hK hP 2 0 rfl rfl (i := e_at) (vp_in_iff.mpr ⟨by omega, by omega⟩) dX4_isNext_26 ?_
    refine lv_iload_n hx hb dX4_isNext_27 rfl (lv_at hl 1 rfl) ?_
    refine lv_icmp_ne (tgt := 35) hx hb dX4_isNext_28 (by decide) (fun c_2 => ?_) (fun c_2 => ?_)
    ·
      have n_2 : gNe ((f_kd e_at.toNatClampNeg).toInt) (45) := by have z := g5_ne (a := (f_kd e_at.toNatClampNeg).toInt) (b := 45) (by rfl) (by decide) c_2; unfold gNe; omega
      refine lv_iconst (v := 0) hx hb dX4_isNext_35 (by decide) ?_
      exact W.zret (v := 0) hx hb hr rfl (fun t ht hW => ⟨⟨0, [(a_r, (oc4 a_tk a_rh a_rs a_rc e_ln e_pa e_at e_fp)), (a_tk, (oc8 a_kd a_nm a_pl)), (a_kd, (arI G 401 f_kd))], rfl, Or.inr (⟨by unfold gNe at *; omega, rfl, rfl⟩), by rw [ht]; exact hP.sub [0, 1, 2] rfl, hD.sub [0, 1, 2] (by decide) rfl⟩, hS.F ht⟩) hS.2.2 dX4_isNext_36
    ·
      have i_2 : (f_kd e_at.toNatClampNeg).toInt = 45 := by have z := g5_neN (a := (f_kd e_at.toNatClampNeg).toInt) (b := 45) (by rfl) (by decide) c_2; omega
      refine lv_iconst (v := 1) hx hb dX4_isNext_31 (by decide) ?_
      refine lv_goto (tgt := 36) hx hb dX4_isNext_32 (by decide) ?_
      exact W.zret (v := 1) hx hb hr rfl (fun t ht hW => ⟨⟨1, [(a_r, (oc4 a_tk a_rh a_rs a_rc e_ln e_pa e_at e_fp)), (a_tk, (oc8 a_kd a_nm a_pl)), (a_kd, (arI G 401 f_kd))], rfl, Or.inl (⟨by omega, rfl, rfl⟩), by rw [ht]; exact hP.sub [0, 1, 2] rfl, hD.sub [0, 1, 2] (by decide) rfl⟩, hS.F ht⟩) hS.2.2 dX4_isNext_36
set_option maxHeartbeats 4000000 in
set_option maxRecDepth 100000 in
theorem r_isNextX42 (l : Launch) (G : g5_G) (a_r a_tk a_kd a_rh a_rs a_rc a_nm a_pl : Nat) (sz : Nat) (e_ln : Int32) (e_pa : Int32) (e_at : Int32) (e_fp : Int32) (f_kd : Nat → Int32) (h_e_ln : 0 ≤ e_ln.toInt ∧ e_ln.toInt ≤ 400) (h_e_pa : 0 ≤ e_pa.toInt ∧ e_pa.toInt ≤ 50) (h_e_at : 0 ≤ e_at.toInt ∧ e_at.toInt ≤ 401) (e_a4 : e_at.toInt ≤ 400) : Met l yX4_isNext (wsG yX4_isNext cX4_isNext 2 (some .boolean)) ({ frames := 0, cells := 0, slots := 0, locals := 0 }) (va_Pc [.ref a_r, .int 42] (g5_P G [(a_r, (oc4 a_tk a_rh a_rs a_rc e_ln e_pa e_at e_fp)), (a_tk, (oc8 a_kd a_nm a_pl)), (a_kd, (arI G 401 f_kd))] sz)) (va_Qi (fun (r : Int32) (u : va_W) => (((f_kd e_at.toNatClampNeg).toInt = 42) ∧ (r = 1) ∧ (u = [(a_r, (oc4 a_tk a_rh a_rs a_rc e_ln e_pa e_at e_fp)), (a_tk, (oc8 a_kd a_nm a_pl)), (a_kd, (arI G 401 f_kd))])) ∨ ((gNe (f_kd e_at.toNatClampNeg).toInt 42) ∧ (r = 0) ∧ (u = [(a_r, (oc4 a_tk a_rh a_rs a_rc e_ln e_pa e_at e_fp)), (a_tk, (oc8 a_kd a_nm a_pl)), (a_kd, (arI G 401 f_kd))]))) (g5_B G (va_A [(a_r, (oc4 a_tk a_rh a_rs a_rc e_ln e_pa e_at e_fp)), (a_tk, (oc8 a_kd a_nm a_pl)), (a_kd, (arI G 401 f_kd))] sz)) (va_A [(a_r, (oc4 a_tk a_rh a_rs a_rc e_ln e_pa e_at e_fp)), (a_tk, (oc8 a_kd a_nm a_pl)), (a_kd, (arI G 401 f_kd))] sz)) 0 0 (va_A [(a_r, (oc4 a_tk a_rh a_rs a_rc e_ln e_pa e_at e_fp)), (a_tk, (oc8 a_kd a_nm a_pl)), (a_kd, (arI G 401 f_kd))] sz) := by
  refine Met.ofW (cc := cX4_isNext) (maxL := 2) (ret := (some .boolean)) (by decide) rfl ?_
  intro p e s m args below meth c s₁ B hml hv
  obtain ⟨rfl, hsz, hP, hK, hD0, hN, hT⟩ := hv
  have hx := B.exec
  have hb := B.bytes
  have hr := B.returns
  have hts : ∀ w ∈ tblG, w.before _ s = true := fun w h => atoms_spec (ws := (wsG yX4_isNext cX4_isNext 2 (some .boolean))) B.pre w (List.mem_cons_of_mem _ h)
  have hown : s.vm.findClass RX4 = some m.cls := findClass_of_methodNamed B.named
  have hlocks := B.notSynchronized
  subst hsz
  have hD := hD0.self (sz := s.heap.size)
  generalize hAe : va_A [(a_r, (oc4 a_tk a_rh a_rs a_rc e_ln e_pa e_at e_fp)), (a_tk, (oc8 a_kd a_nm a_pl)), (a_kd, (arI G 401 f_kd))] s.heap.size = A at hD hT ⊢
  have hA : ∀ q : Nat, s.heap.size ≤ q → A q := fun q h => by rw [← hAe]; exact Or.inr h
  have hS : va_S A s.heap s.heap [] := va_S.rf
  have hP : va_P G.1 vwCl [(a_r, (oc4 a_tk a_rh a_rs a_rc e_ln e_pa e_at e_fp)), (a_tk, (oc8 a_kd a_nm a_pl)), (a_kd, (arI G 401 f_kd))] s.heap := hP
  have hl := lv_entry ([.ref a_r, .int 42]) (n := 2) (Nat.le_of_ble_eq_true rfl)
  rw [lg_entry_eq]
  generalize (lg_sl ([.ref a_r, .int 42]) ++ List.replicate (2 - (lg_sl ([.ref a_r, .int 42])).length) Slot.unset).toArray = ls at hl ⊢
  have hl : lv_has ls 2 [(0, .ref a_r), (1, .int 42)] := hl
  refine lv_aload_n hx hb dX4_isNext_0 rfl (lv_at hl 0 rfl) ?_
  refine va_get (D := G.1) (ci := 4) (v := .int e_at) (C := RX4) (T := TX4) (N := 8) hx hb hts inG_X4 hown hK hP 0 rfl rfl 6 (by decide) (hts _ fl_X4_42) (fun _ h9 => h9) rfl dX4_isNext_1 ?_
  refine lv_aload_n hx hb dX4_isNext_4 rfl (lv_at hl 0 rfl) ?_
  refine va_get (D := G.1) (ci := 4) (v := .ref a_tk) (C := RX4) (T := TX4) (N := 8) hx hb hts inG_X4 hown hK hP 0 rfl rfl 0 (by decide) (hts _ fl_X4_12) (fun _ h9 => h9) rfl dX4_isNext_5 ?_
  refine W.eq (g2 := F0 m 8 ls [.ref a_tk, .int e_at]) rfl ?_
  refine va_get (D := G.1) (ci := 8) (v := .ref a_kd) (C := RX8) (T := TX8) (N := 3) hx hb hts inG_X8 hown hK hP 1 rfl rfl 0 (by decide) (hts _ fl_X4_96) (fun _ h9 => h9) rfl dX4_isNext_8 ?_
  refine va_alen hx hb hK hP 2 0 rfl rfl (v := 401) (by show Int32.ofNat 401 = 401; decide) dX4_isNext_11 ?_
  refine lv_icmp_ge (tgt := 35) hx hb dX4_isNext_12 (by decide) (fun c_1 => ?_) (fun c_1 => ?_)
  ·
    have i_1 : e_at.toInt ≥ 401 := by have z := g5_ge (a := e_at.toInt) (b := 401) (by rfl) (by decide) c_1; omega
    refine lv_iconst (v := 0) hx hb dX4_isNext_35 (by decide) ?_
    exact W.zret (v := 0) hx hb hr rfl (fun t ht hW => ⟨⟨0, [(a_r, (oc4 a_tk a_rh a_rs a_rc e_ln e_pa e_at e_fp)), (a_tk, (oc8 a_kd a_nm a_pl)), (a_kd, (arI G 401 f_kd))], rfl, Or.inr (⟨by unfold gNe at *; omega, rfl, rfl⟩), by rw [ht]; exact hP.sub [0, 1, 2] rfl, hD.sub [0, 1, 2] (by decide) rfl⟩, hS.F ht⟩) hS.2.2 dX4_isNext_36
  ·
    have i_1 : e_at.toInt < 401 := by have z := g5_geN (a := e_at.toInt) (b := 401) (by rfl) (by decide) c_1; omega
    refine lv_aload_n hx hb dX4_isNext_15 rfl (lv_at hl 0 rfl) ?_
    refine va_get (D := G.1) (ci := 4) (v := .ref a_tk) (C := RX4) (T := TX4) (N := 8) hx hb hts inG_X4 hown hK hP 0 rfl rfl 0 (by decide) (hts _ fl_X4_12) (fun _ h9 => h9) rfl dX4_isNext_16 ?_
    refine va_get (D := G.1) (ci := 8) (v := .ref a_kd) (C := RX8) (T := TX8) (N := 3) hx hb hts inG_X8 hown hK hP 1 rfl rfl 0 (by decide) (hts _ fl_X4_96) (fun _ h9 => h9) rfl dX4_isNext_19 ?_
    refine lv_aload_n hx hb dX4_isNext_22 rfl (lv_at hl 0 rfl) ?_
    refine W.eq (g2 := F0 m 23 ls [.ref a_r, .ref a_kd]) rfl ?_
    refine va_get (D := G.1) (ci := 4) (v := .int e_at) (C := RX4) (T := TX4) (N := 8) hx hb hts inG_X4 hown hK hP 0 rfl rfl 6 (by decide) (hts _ fl_X4_42) (fun _ h9 => h9) rfl dX4_isNext_23 ?_
    refine va_iald hx hb hK hP 2 0 rfl rfl (i := e_at) (vp_in_iff.mpr ⟨by omega, by omega⟩) dX4_isNext_26 ?_
    refine lv_iload_n hx hb dX4_isNext_27 rfl (lv_at hl 1 rfl) ?_
    refine lv_icmp_ne (tgt := 35) hx hb dX4_isNext_28 (by decide) (fun c_2 => ?_) (fun c_2 => ?_)
    ·
      have n_2 : gNe ((f_kd e_at.toNatClampNeg).toInt) (42) := by have z := g5_ne (a := (f_kd e_at.toNatClampNeg).toInt) (b := 42) (by rfl) (by decide) c_2; unfold gNe; omega
      refine lv_iconst (v := 0) hx hb dX4_isNext_35 (by decide) ?_
      exact W.zret (v := 0) hx hb hr rfl (fun t ht hW => ⟨⟨0, [(a_r, (oc4 a_tk a_rh a_rs a_rc e_ln e_pa e_at e_fp)), (a_tk, (oc8 a_kd a_nm a_pl)), (a_kd, (arI G 401 f_kd))], rfl, Or.inr (⟨by unfold gNe at *; omega, rfl, rfl⟩), by rw [ht]; exact hP.sub [0, 1, 2] rfl, hD.sub [0, 1, 2] (by decide) rfl⟩, hS.F ht⟩) hS.2.2 dX4_isNext_36
    ·
      have i_2 : (f_kd e_at.toNatClampNeg).toInt = 42 := by have z := g5_neN (a := (f_kd e_at.toNatClampNeg).toInt) (b := 42) (by rfl) (by decide) c_2; omega
      refine lv_iconst (v := 1) hx hb dX4_isNext_31 (by decide) ?_
      refine lv_goto (tgt := 36) hx hb dX4_isNext_32 (by decide) ?_
      exact W.zret (v := 1) hx hb hr rfl (fun t ht hW => ⟨⟨1, [(a_r, (oc4 a_tk a_rh a_rs a_rc e_ln e_pa e_at e_fp)), (a_tk, (oc8 a_kd a_nm a_pl)), (a_kd, (arI G 401 f_kd))], rfl, Or.inl (⟨by omega, rfl, rfl⟩), by rw [ht]; exact hP.sub [0, 1, 2] rfl, hD.sub [0, 1, 2] (by decide) rfl⟩, hS.F ht⟩) hS.2.2 dX4_isNext_36
set_option maxHeartbeats 4000000 in
set_option maxRecDepth 100000 in
theorem r_isNextX47 (l : Launch) (G : g5_G) (a_r a_tk a_kd a_rh a_rs a_rc a_nm a_pl : Nat) (sz : Nat) (e_ln : Int32) (e_pa : Int32) (e_at : Int32) (e_fp : Int32) (f_kd : Nat → Int32) (h_e_ln : 0 ≤ e_ln.toInt ∧ e_ln.toInt ≤ 400) (h_e_pa : 0 ≤ e_pa.toInt ∧ e_pa.toInt ≤ 50) (h_e_at : 0 ≤ e_at.toInt ∧ e_at.toInt ≤ 401) (e_a4 : e_at.toInt ≤ 400) : Met l yX4_isNext (wsG yX4_isNext cX4_isNext 2 (some .boolean)) ({ frames := 0, cells := 0, slots := 0, locals := 0 }) (va_Pc [.ref a_r, .int 47] (g5_P G [(a_r, (oc4 a_tk a_rh a_rs a_rc e_ln e_pa e_at e_fp)), (a_tk, (oc8 a_kd a_nm a_pl)), (a_kd, (arI G 401 f_kd))] sz)) (va_Qi (fun (r : Int32) (u : va_W) => (((f_kd e_at.toNatClampNeg).toInt = 47) ∧ (r = 1) ∧ (u = [(a_r, (oc4 a_tk a_rh a_rs a_rc e_ln e_pa e_at e_fp)), (a_tk, (oc8 a_kd a_nm a_pl)), (a_kd, (arI G 401 f_kd))])) ∨ ((gNe (f_kd e_at.toNatClampNeg).toInt 47) ∧ (r = 0) ∧ (u = [(a_r, (oc4 a_tk a_rh a_rs a_rc e_ln e_pa e_at e_fp)), (a_tk, (oc8 a_kd a_nm a_pl)), (a_kd, (arI G 401 f_kd))]))) (g5_B G (va_A [(a_r, (oc4 a_tk a_rh a_rs a_rc e_ln e_pa e_at e_fp)), (a_tk, (oc8 a_kd a_nm a_pl)), (a_kd, (arI G 401 f_kd))] sz)) (va_A [(a_r, (oc4 a_tk a_rh a_rs a_rc e_ln e_pa e_at e_fp)), (a_tk, (oc8 a_kd a_nm a_pl)), (a_kd, (arI G 401 f_kd))] sz)) 0 0 (va_A [(a_r, (oc4 a_tk a_rh a_rs a_rc e_ln e_pa e_at e_fp)), (a_tk, (oc8 a_kd a_nm a_pl)), (a_kd, (arI G 401 f_kd))] sz) := by
  refine Met.ofW (cc := cX4_isNext) (maxL := 2) (ret := (some .boolean)) (by decide) rfl ?_
  intro p e s m args below meth c s₁ B hml hv
  obtain ⟨rfl, hsz, hP, hK, hD0, hN, hT⟩ := hv
  have hx := B.exec
  have hb := B.bytes
  have hr := B.returns
  have hts : ∀ w ∈ tblG, w.before _ s = true := fun w h => atoms_spec (ws := (wsG yX4_isNext cX4_isNext 2 (some .boolean))) B.pre w (List.mem_cons_of_mem _ h)
  have hown : s.vm.findClass RX4 = some m.cls := findClass_of_methodNamed B.named
  have hlocks := B.notSynchronized
  subst hsz
  have hD := hD0.self (sz := s.heap.size)
  generalize hAe : va_A [(a_r, (oc4 a_tk a_rh a_rs a_rc e_ln e_pa e_at e_fp)), (a_tk, (oc8 a_kd a_nm a_pl)), (a_kd, (arI G 401 f_kd))] s.heap.size = A at hD hT ⊢
  have hA : ∀ q : Nat, s.heap.size ≤ q → A q := fun q h => by rw [← hAe]; exact Or.inr h
  have hS : va_S A s.heap s.heap [] := va_S.rf
  have hP : va_P G.1 vwCl [(a_r, (oc4 a_tk a_rh a_rs a_rc e_ln e_pa e_at e_fp)), (a_tk, (oc8 a_kd a_nm a_pl)), (a_kd, (arI G 401 f_kd))] s.heap := hP
  have hl := lv_entry ([.ref a_r, .int 47]) (n := 2) (Nat.le_of_ble_eq_true rfl)
  rw [lg_entry_eq]
  generalize (lg_sl ([.ref a_r, .int 47]) ++ List.replicate (2 - (lg_sl ([.ref a_r, .int 47])).length) Slot.unset).toArray = ls at hl ⊢
  have hl : lv_has ls 2 [(0, .ref a_r), (1, .int 47)] := hl
  refine lv_aload_n hx hb dX4_isNext_0 rfl (lv_at hl 0 rfl) ?_
  refine va_get (D := G.1) (ci := 4) (v := .int e_at) (C := RX4) (T := TX4) (N := 8) hx hb hts inG_X4 hown hK hP 0 rfl rfl 6 (by decide) (hts _ fl_X4_42) (fun _ h9 => h9) rfl dX4_isNext_1 ?_
  refine lv_aload_n hx hb dX4_isNext_4 rfl (lv_at hl 0 rfl) ?_
  refine va_get (D := G.1) (ci := 4) (v := .ref a_tk) (C := RX4) (T := TX4) (N := 8) hx hb hts inG_X4 hown hK hP 0 rfl rfl 0 (by decide) (hts _ fl_X4_12) (fun _ h9 => h9) rfl dX4_isNext_5 ?_
  refine W.eq (g2 := F0 m 8 ls [.ref a_tk, .int e_at]) rfl ?_
  refine va_get (D := G.1) (ci := 8) (v := .ref a_kd) (C := RX8) (T := TX8) (N := 3) hx hb hts inG_X8 hown hK hP 1 rfl rfl 0 (by decide) (hts _ fl_X4_96) (fun _ h9 => h9) rfl dX4_isNext_8 ?_
  refine va_alen hx hb hK hP 2 0 rfl rfl (v := 401) (by show Int32.ofNat 401 = 401; decide) dX4_isNext_11 ?_
  refine lv_icmp_ge (tgt := 35) hx hb dX4_isNext_12 (by decide) (fun c_1 => ?_) (fun c_1 => ?_)
  ·
    have i_1 : e_at.toInt ≥ 401 := by have z := g5_ge (a := e_at.toInt) (b := 401) (by rfl) (by decide) c_1; omega
    refine lv_iconst (v := 0) hx hb dX4_isNext_35 (by decide) ?_
    exact W.zret (v := 0) hx hb hr rfl (fun t ht hW => ⟨⟨0, [(a_r, (oc4 a_tk a_rh a_rs a_rc e_ln e_pa e_at e_fp)), (a_tk, (oc8 a_kd a_nm a_pl)), (a_kd, (arI G 401 f_kd))], rfl, Or.inr (⟨by unfold gNe at *; omega, rfl, rfl⟩), by rw [ht]; exact hP.sub [0, 1, 2] rfl, hD.sub [0, 1, 2] (by decide) rfl⟩, hS.F ht⟩) hS.2.2 dX4_isNext_36
  ·
    have i_1 : e_at.toInt < 401 := by have z := g5_geN (a := e_at.toInt) (b := 401) (by rfl) (by decide) c_1; omega
    refine lv_aload_n hx hb dX4_isNext_15 rfl (lv_at hl 0 rfl) ?_
    refine va_get (D := G.1) (ci := 4) (v := .ref a_tk) (C := RX4) (T := TX4) (N := 8) hx hb hts inG_X4 hown hK hP 0 rfl rfl 0 (by decide) (hts _ fl_X4_12) (fun _ h9 => h9) rfl dX4_isNext_16 ?_
    refine va_get (D := G.1) (ci := 8) (v := .ref a_kd) (C := RX8) (T := TX8) (N := 3) hx hb hts inG_X8 hown hK hP 1 rfl rfl 0 (by decide) (hts _ fl_X4_96) (fun _ h9 => h9) rfl dX4_isNext_19 ?_
    refine lv_aload_n hx hb dX4_isNext_22 rfl (lv_at hl 0 rfl) ?_
    refine W.eq (g2 := F0 m 23 ls [.ref a_r, .ref a_kd]) rfl ?_
    refine va_get (D := G.1) (ci := 4) (v := .int e_at) (C := RX4) (T := TX4) (N := 8) hx hb hts inG_X4 hown hK hP 0 rfl rfl 6 (by decide) (hts _ fl_X4_42) (fun _ h9 => h9) rfl dX4_isNext_23 ?_
    refine va_iald hx hb hK hP 2 0 rfl rfl (i := e_at) (vp_in_iff.mpr ⟨by omega, by omega⟩) dX4_isNext_26 ?_
    refine lv_iload_n hx hb dX4_isNext_27 rfl (lv_at hl 1 rfl) ?_
    refine lv_icmp_ne (tgt := 35) hx hb dX4_isNext_28 (by decide) (fun c_2 => ?_) (fun c_2 => ?_)
    ·
      have n_2 : gNe ((f_kd e_at.toNatClampNeg).toInt) (47) := by have z := g5_ne (a := (f_kd e_at.toNatClampNeg).toInt) (b := 47) (by rfl) (by decide) c_2; unfold gNe; omega
      refine lv_iconst (v := 0) hx hb dX4_isNext_35 (by decide) ?_
      exact W.zret (v := 0) hx hb hr rfl (fun t ht hW => ⟨⟨0, [(a_r, (oc4 a_tk a_rh a_rs a_rc e_ln e_pa e_at e_fp)), (a_tk, (oc8 a_kd a_nm a_pl)), (a_kd, (arI G 401 f_kd))], rfl, Or.inr (⟨by unfold gNe at *; omega, rfl, rfl⟩), by rw [ht]; exact hP.sub [0, 1, 2] rfl, hD.sub [0, 1, 2] (by decide) rfl⟩, hS.F ht⟩) hS.2.2 dX4_isNext_36
    ·
      have i_2 : (f_kd e_at.toNatClampNeg).toInt = 47 := by have z := g5_neN (a := (f_kd e_at.toNatClampNeg).toInt) (b := 47) (by rfl) (by decide) c_2; omega
      refine lv_iconst (v := 1) hx hb dX4_isNext_31 (by decide) ?_
      refine lv_goto (tgt := 36) hx hb dX4_isNext_32 (by decide) ?_
      exact W.zret (v := 1) hx hb hr rfl (fun t ht hW => ⟨⟨1, [(a_r, (oc4 a_tk a_rh a_rs a_rc e_ln e_pa e_at e_fp)), (a_tk, (oc8 a_kd a_nm a_pl)), (a_kd, (arI G 401 f_kd))], rfl, Or.inl (⟨by omega, rfl, rfl⟩), by rw [ht]; exact hP.sub [0, 1, 2] rfl, hD.sub [0, 1, 2] (by decide) rfl⟩, hS.F ht⟩) hS.2.2 dX4_isNext_36
set_option maxHeartbeats 4000000 in
set_option maxRecDepth 100000 in
theorem r_isNextX60 (l : Launch) (G : g5_G) (a_r a_tk a_kd a_rh a_rs a_rc a_nm a_pl : Nat) (sz : Nat) (e_ln : Int32) (e_pa : Int32) (e_at : Int32) (e_fp : Int32) (f_kd : Nat → Int32) (h_e_ln : 0 ≤ e_ln.toInt ∧ e_ln.toInt ≤ 400) (h_e_pa : 0 ≤ e_pa.toInt ∧ e_pa.toInt ≤ 50) (h_e_at : 0 ≤ e_at.toInt ∧ e_at.toInt ≤ 401) (e_a4 : e_at.toInt ≤ 400) : Met l yX4_isNext (wsG yX4_isNext cX4_isNext 2 (some .boolean)) ({ frames := 0, cells := 0, slots := 0, locals := 0 }) (va_Pc [.ref a_r, .int 60] (g5_P G [(a_r, (oc4 a_tk a_rh a_rs a_rc e_ln e_pa e_at e_fp)), (a_tk, (oc8 a_kd a_nm a_pl)), (a_kd, (arI G 401 f_kd))] sz)) (va_Qi (fun (r : Int32) (u : va_W) => (((f_kd e_at.toNatClampNeg).toInt = 60) ∧ (r = 1) ∧ (u = [(a_r, (oc4 a_tk a_rh a_rs a_rc e_ln e_pa e_at e_fp)), (a_tk, (oc8 a_kd a_nm a_pl)), (a_kd, (arI G 401 f_kd))])) ∨ ((gNe (f_kd e_at.toNatClampNeg).toInt 60) ∧ (r = 0) ∧ (u = [(a_r, (oc4 a_tk a_rh a_rs a_rc e_ln e_pa e_at e_fp)), (a_tk, (oc8 a_kd a_nm a_pl)), (a_kd, (arI G 401 f_kd))]))) (g5_B G (va_A [(a_r, (oc4 a_tk a_rh a_rs a_rc e_ln e_pa e_at e_fp)), (a_tk, (oc8 a_kd a_nm a_pl)), (a_kd, (arI G 401 f_kd))] sz)) (va_A [(a_r, (oc4 a_tk a_rh a_rs a_rc e_ln e_pa e_at e_fp)), (a_tk, (oc8 a_kd a_nm a_pl)), (a_kd, (arI G 401 f_kd))] sz)) 0 0 (va_A [(a_r, (oc4 a_tk a_rh a_rs a_rc e_ln e_pa e_at e_fp)), (a_tk, (oc8 a_kd a_nm a_pl)), (a_kd, (arI G 401 f_kd))] sz) := by
  refine Met.ofW (cc := cX4_isNext) (maxL := 2) (ret := (some .boolean)) (by decide) rfl ?_
  intro p e s m args below meth c s₁ B hml hv
  obtain ⟨rfl, hsz, hP, hK, hD0, hN, hT⟩ := hv
  have hx := B.exec
  have hb := B.bytes
  have hr := B.returns
  have hts : ∀ w ∈ tblG, w.before _ s = true := fun w h => atoms_spec (ws := (wsG yX4_isNext cX4_isNext 2 (some .boolean))) B.pre w (List.mem_cons_of_mem _ h)
  have hown : s.vm.findClass RX4 = some m.cls := findClass_of_methodNamed B.named
  have hlocks := B.notSynchronized
  subst hsz
  have hD := hD0.self (sz := s.heap.size)
  generalize hAe : va_A [(a_r, (oc4 a_tk a_rh a_rs a_rc e_ln e_pa e_at e_fp)), (a_tk, (oc8 a_kd a_nm a_pl)), (a_kd, (arI G 401 f_kd))] s.heap.size = A at hD hT ⊢
  have hA : ∀ q : Nat, s.heap.size ≤ q → A q := fun q h => by rw [← hAe]; exact Or.inr h
  have hS : va_S A s.heap s.heap [] := va_S.rf
  have hP : va_P G.1 vwCl [(a_r, (oc4 a_tk a_rh a_rs a_rc e_ln e_pa e_at e_fp)), (a_tk, (oc8 a_kd a_nm a_pl)), (a_kd, (arI G 401 f_kd))] s.heap := hP
  have hl := lv_entry ([.ref a_r, .int 60]) (n := 2) (Nat.le_of_ble_eq_true rfl)
  rw [lg_entry_eq]
  generalize (lg_sl ([.ref a_r, .int 60]) ++ List.replicate (2 - (lg_sl ([.ref a_r, .int 60])).length) Slot.unset).toArray = ls at hl ⊢
  have hl : lv_has ls 2 [(0, .ref a_r), (1, .int 60)] := hl
  refine lv_aload_n hx hb dX4_isNext_0 rfl (lv_at hl 0 rfl) ?_
  refine va_get (D := G.1) (ci := 4) (v := .int e_at) (C := RX4) (T := TX4) (N := 8) hx hb hts inG_X4 hown hK hP 0 rfl rfl 6 (by decide) (hts _ fl_X4_42) (fun _ h9 => h9) rfl dX4_isNext_1 ?_
  refine lv_aload_n hx hb dX4_isNext_4 rfl (lv_at hl 0 rfl) ?_
  refine va_get (D := G.1) (ci := 4) (v := .ref a_tk) (C := RX4) (T := TX4) (N := 8) hx hb hts inG_X4 hown hK hP 0 rfl rfl 0 (by decide) (hts _ fl_X4_12) (fun _ h9 => h9) rfl dX4_isNext_5 ?_
  refine W.eq (g2 := F0 m 8 ls [.ref a_tk, .int e_at]) rfl ?_
  refine va_get (D := G.1) (ci := 8) (v := .ref a_kd) (C := RX8) (T := TX8) (N := 3) hx hb hts inG_X8 hown hK hP 1 rfl rfl 0 (by decide) (hts _ fl_X4_96) (fun _ h9 => h9) rfl dX4_isNext_8 ?_
  refine va_alen hx hb hK hP 2 0 rfl rfl (v := 401) (by show Int32.ofNat 401 = 401; decide) dX4_isNext_11 ?_
  refine lv_icmp_ge (tgt := 35) hx hb dX4_isNext_12 (by decide) (fun c_1 => ?_) (fun c_1 => ?_)
  ·
    have i_1 : e_at.toInt ≥ 401 := by have z := g5_ge (a := e_at.toInt) (b := 401) (by rfl) (by decide) c_1; omega
    refine lv_iconst (v := 0) hx hb dX4_isNext_35 (by decide) ?_
    exact W.zret (v := 0) hx hb hr rfl (fun t ht hW => ⟨⟨0, [(a_r, (oc4 a_tk a_rh a_rs a_rc e_ln e_pa e_at e_fp)), (a_tk, (oc8 a_kd a_nm a_pl)), (a_kd, (arI G 401 f_kd))], rfl, Or.inr (⟨by unfold gNe at *; omega, rfl, rfl⟩), by rw [ht]; exact hP.sub [0, 1, 2] rfl, hD.sub [0, 1, 2] (by decide) rfl⟩, hS.F ht⟩) hS.2.2 dX4_isNext_36
  ·
    have i_1 : e_at.toInt < 401 := by have z := g5_geN (a := e_at.toInt) (b := 401) (by rfl) (by decide) c_1; omega
    refine lv_aload_n hx hb dX4_isNext_15 rfl (lv_at hl 0 rfl) ?_
    refine va_get (D := G.1) (ci := 4) (v := .ref a_tk) (C := RX4) (T := TX4) (N := 8) hx hb hts inG_X4 hown hK hP 0 rfl rfl 0 (by decide) (hts _ fl_X4_12) (fun _ h9 => h9) rfl dX4_isNext_16 ?_
    refine va_get (D := G.1) (ci := 8) (v := .ref a_kd) (C := RX8) (T := TX8) (N := 3) hx hb hts inG_X8 hown hK hP 1 rfl rfl 0 (by decide) (hts _ fl_X4_96) (fun _ h9 => h9) rfl dX4_isNext_19 ?_
    refine lv_aload_n hx hb dX4_isNext_22 rfl (lv_at hl 0 rfl) ?_
    refine W.eq (g2 := F0 m 23 ls [.ref a_r, .ref a_kd]) rfl ?_
    refine va_get (D := G.1) (ci := 4) (v := .int e_at) (C := RX4) (T := TX4) (N := 8) hx hb hts inG_X4 hown hK hP 0 rfl rfl 6 (by decide) (hts _ fl_X4_42) (fun _ h9 => h9) rfl dX4_isNext_23 ?_
    refine va_iald hx hb hK hP 2 0 rfl rfl (i := e_at) (vp_in_iff.mpr ⟨by omega, by omega⟩) dX4_isNext_26 ?_
    refine lv_iload_n hx hb dX4_isNext_27 rfl (lv_at hl 1 rfl) ?_
    refine lv_icmp_ne (tgt := 35) hx hb dX4_isNext_28 (by decide) (fun c_2 => ?_) (fun c_2 => ?_)
    ·
      have n_2 : gNe ((f_kd e_at.toNatClampNeg).toInt) (60) := by have z := g5_ne (a := (f_kd e_at.toNatClampNeg).toInt) (b := 60) (by rfl) (by decide) c_2; unfold gNe; omega
      refine lv_iconst (v := 0) hx hb dX4_isNext_35 (by decide) ?_
      exact W.zret (v := 0) hx hb hr rfl (fun t ht hW => ⟨⟨0, [(a_r, (oc4 a_tk a_rh a_rs a_rc e_ln e_pa e_at e_fp)), (a_tk, (oc8 a_kd a_nm a_pl)), (a_kd, (arI G 401 f_kd))], rfl, Or.inr (⟨by unfold gNe at *; omega, rfl, rfl⟩), by rw [ht]; exact hP.sub [0, 1, 2] rfl, hD.sub [0, 1, 2] (by decide) rfl⟩, hS.F ht⟩) hS.2.2 dX4_isNext_36
    ·
      have i_2 : (f_kd e_at.toNatClampNeg).toInt = 60 := by have z := g5_neN (a := (f_kd e_at.toNatClampNeg).toInt) (b := 60) (by rfl) (by decide) c_2; omega
      refine lv_iconst (v := 1) hx hb dX4_isNext_31 (by decide) ?_
      refine lv_goto (tgt := 36) hx hb dX4_isNext_32 (by decide) ?_
      exact W.zret (v := 1) hx hb hr rfl (fun t ht hW => ⟨⟨1, [(a_r, (oc4 a_tk a_rh a_rs a_rc e_ln e_pa e_at e_fp)), (a_tk, (oc8 a_kd a_nm a_pl)), (a_kd, (arI G 401 f_kd))], rfl, Or.inl (⟨by omega, rfl, rfl⟩), by rw [ht]; exact hP.sub [0, 1, 2] rfl, hD.sub [0, 1, 2] (by decide) rfl⟩, hS.F ht⟩) hS.2.2 dX4_isNext_36
set_option maxHeartbeats 4000000 in
set_option maxRecDepth 100000 in
theorem r_isNextX62 (l : Launch) (G : g5_G) (a_r a_tk a_kd a_rh a_rs a_rc a_nm a_pl : Nat) (sz : Nat) (e_ln : Int32) (e_pa : Int32) (e_at : Int32) (e_fp : Int32) (f_kd : Nat → Int32) (h_e_ln : 0 ≤ e_ln.toInt ∧ e_ln.toInt ≤ 400) (h_e_pa : 0 ≤ e_pa.toInt ∧ e_pa.toInt ≤ 50) (h_e_at : 0 ≤ e_at.toInt ∧ e_at.toInt ≤ 401) (e_a4 : e_at.toInt ≤ 400) : Met l yX4_isNext (wsG yX4_isNext cX4_isNext 2 (some .boolean)) ({ frames := 0, cells := 0, slots := 0, locals := 0 }) (va_Pc [.ref a_r, .int 62] (g5_P G [(a_r, (oc4 a_tk a_rh a_rs a_rc e_ln e_pa e_at e_fp)), (a_tk, (oc8 a_kd a_nm a_pl)), (a_kd, (arI G 401 f_kd))] sz)) (va_Qi (fun (r : Int32) (u : va_W) => (((f_kd e_at.toNatClampNeg).toInt = 62) ∧ (r = 1) ∧ (u = [(a_r, (oc4 a_tk a_rh a_rs a_rc e_ln e_pa e_at e_fp)), (a_tk, (oc8 a_kd a_nm a_pl)), (a_kd, (arI G 401 f_kd))])) ∨ ((gNe (f_kd e_at.toNatClampNeg).toInt 62) ∧ (r = 0) ∧ (u = [(a_r, (oc4 a_tk a_rh a_rs a_rc e_ln e_pa e_at e_fp)), (a_tk, (oc8 a_kd a_nm a_pl)), (a_kd, (arI G 401 f_kd))]))) (g5_B G (va_A [(a_r, (oc4 a_tk a_rh a_rs a_rc e_ln e_pa e_at e_fp)), (a_tk, (oc8 a_kd a_nm a_pl)), (a_kd, (arI G 401 f_kd))] sz)) (va_A [(a_r, (oc4 a_tk a_rh a_rs a_rc e_ln e_pa e_at e_fp)), (a_tk, (oc8 a_kd a_nm a_pl)), (a_kd, (arI G 401 f_kd))] sz)) 0 0 (va_A [(a_r, (oc4 a_tk a_rh a_rs a_rc e_ln e_pa e_at e_fp)), (a_tk, (oc8 a_kd a_nm a_pl)), (a_kd, (arI G 401 f_kd))] sz) := by
  refine Met.ofW (cc := cX4_isNext) (maxL := 2) (ret := (some .boolean)) (by decide) rfl ?_
  intro p e s m args below meth c s₁ B hml hv
  obtain ⟨rfl, hsz, hP, hK, hD0, hN, hT⟩ := hv
  have hx := B.exec
  have hb := B.bytes
  have hr := B.returns
  have hts : ∀ w ∈ tblG, w.before _ s = true := fun w h => atoms_spec (ws := (wsG yX4_isNext cX4_isNext 2 (some .boolean))) B.pre w (List.mem_cons_of_mem _ h)
  have hown : s.vm.findClass RX4 = some m.cls := findClass_of_methodNamed B.named
  have hlocks := B.notSynchronized
  subst hsz
  have hD := hD0.self (sz := s.heap.size)
  generalize hAe : va_A [(a_r, (oc4 a_tk a_rh a_rs a_rc e_ln e_pa e_at e_fp)), (a_tk, (oc8 a_kd a_nm a_pl)), (a_kd, (arI G 401 f_kd))] s.heap.size = A at hD hT ⊢
  have hA : ∀ q : Nat, s.heap.size ≤ q → A q := fun q h => by rw [← hAe]; exact Or.inr h
  have hS : va_S A s.heap s.heap [] := va_S.rf
  have hP : va_P G.1 vwCl [(a_r, (oc4 a_tk a_rh a_rs a_rc e_ln e_pa e_at e_fp)), (a_tk, (oc8 a_kd a_nm a_pl)), (a_kd, (arI G 401 f_kd))] s.heap := hP
  have hl := lv_entry ([.ref a_r, .int 62]) (n := 2) (Nat.le_of_ble_eq_true rfl)
  rw [lg_entry_eq]
  generalize (lg_sl ([.ref a_r, .int 62]) ++ List.replicate (2 - (lg_sl ([.ref a_r, .int 62])).length) Slot.unset).toArray = ls at hl ⊢
  have hl : lv_has ls 2 [(0, .ref a_r), (1, .int 62)] := hl
  refine lv_aload_n hx hb dX4_isNext_0 rfl (lv_at hl 0 rfl) ?_
  refine va_get (D := G.1) (ci := 4) (v := .int e_at) (C := RX4) (T := TX4) (N := 8) hx hb hts inG_X4 hown hK hP 0 rfl rfl 6 (by decide) (hts _ fl_X4_42) (fun _ h9 => h9) rfl dX4_isNext_1 ?_
  refine lv_aload_n hx hb dX4_isNext_4 rfl (lv_at hl 0 rfl) ?_
  refine va_get (D := G.1) (ci := 4) (v := .ref a_tk) (C := RX4) (T := TX4) (N := 8) hx hb hts inG_X4 hown hK hP 0 rfl rfl 0 (by decide) (hts _ fl_X4_12) (fun _ h9 => h9) rfl dX4_isNext_5 ?_
  refine W.eq (g2 := F0 m 8 ls [.ref a_tk, .int e_at]) rfl ?_
  refine va_get (D := G.1) (ci := 8) (v := .ref a_kd) (C := RX8) (T := TX8) (N := 3) hx hb hts inG_X8 hown hK hP 1 rfl rfl 0 (by decide) (hts _ fl_X4_96) (fun _ h9 => h9) rfl dX4_isNext_8 ?_
  refine va_alen hx hb hK hP 2 0 rfl rfl (v := 401) (by show Int32.ofNat 401 = 401; decide) dX4_isNext_11 ?_
  refine lv_icmp_ge (tgt := 35) hx hb dX4_isNext_12 (by decide) (fun c_1 => ?_) (fun c_1 => ?_)
  ·
    have i_1 : e_at.toInt ≥ 401 := by have z := g5_ge (a := e_at.toInt) (b := 401) (by rfl) (by decide) c_1; omega
    refine lv_iconst (v := 0) hx hb dX4_isNext_35 (by decide) ?_
    exact W.zret (v := 0) hx hb hr rfl (fun t ht hW => ⟨⟨0, [(a_r, (oc4 a_tk a_rh a_rs a_rc e_ln e_pa e_at e_fp)), (a_tk, (oc8 a_kd a_nm a_pl)), (a_kd, (arI G 401 f_kd))], rfl, Or.inr (⟨by unfold gNe at *; omega, rfl, rfl⟩), by rw [ht]; exact hP.sub [0, 1, 2] rfl, hD.sub [0, 1, 2] (by decide) rfl⟩, hS.F ht⟩) hS.2.2 dX4_isNext_36
  ·
    have i_1 : e_at.toInt < 401 := by have z := g5_geN (a := e_at.toInt) (b := 401) (by rfl) (by decide) c_1; omega
    refine lv_aload_n hx hb dX4_isNext_15 rfl (lv_at hl 0 rfl) ?_
    refine va_get (D := G.1) (ci := 4) (v := .ref a_tk) (C := RX4) (T := TX4) (N := 8) hx hb hts inG_X4 hown hK hP 0 rfl rfl 0 (by decide) (hts _ fl_X4_12) (fun _ h9 => h9) rfl dX4_isNext_16 ?_
    refine va_get (D := G.1) (ci := 8) (v := .ref a_kd) (C := RX8) (T := TX8) (N := 3) hx hb hts inG_X8 hown hK hP 1 rfl rfl 0 (by decide) (hts _ fl_X4_96) (fun _ h9 => h9) rfl dX4_isNext_19 ?_
    refine lv_aload_n hx hb dX4_isNext_22 rfl (lv_at hl 0 rfl) ?_
    refine W.eq (g2 := F0 m 23 ls [.ref a_r, .ref a_kd]) rfl ?_
    refine va_get (D := G.1) (ci := 4) (v := .int e_at) (C := RX4) (T := TX4) (N := 8) hx hb hts inG_X4 hown hK hP 0 rfl rfl 6 (by decide) (hts _ fl_X4_42) (fun _ h9 => h9) rfl dX4_isNext_23 ?_
    refine va_iald hx hb hK hP 2 0 rfl rfl (i := e_at) (vp_in_iff.mpr ⟨by omega, by omega⟩) dX4_isNext_26 ?_
    refine lv_iload_n hx hb dX4_isNext_27 rfl (lv_at hl 1 rfl) ?_
    refine lv_icmp_ne (tgt := 35) hx hb dX4_isNext_28 (by decide) (fun c_2 => ?_) (fun c_2 => ?_)
    ·
      have n_2 : gNe ((f_kd e_at.toNatClampNeg).toInt) (62) := by have z := g5_ne (a := (f_kd e_at.toNatClampNeg).toInt) (b := 62) (by rfl) (by decide) c_2; unfold gNe; omega
      refine lv_iconst (v := 0) hx hb dX4_isNext_35 (by decide) ?_
      exact W.zret (v := 0) hx hb hr rfl (fun t ht hW => ⟨⟨0, [(a_r, (oc4 a_tk a_rh a_rs a_rc e_ln e_pa e_at e_fp)), (a_tk, (oc8 a_kd a_nm a_pl)), (a_kd, (arI G 401 f_kd))], rfl, Or.inr (⟨by unfold gNe at *; omega, rfl, rfl⟩), by rw [ht]; exact hP.sub [0, 1, 2] rfl, hD.sub [0, 1, 2] (by decide) rfl⟩, hS.F ht⟩) hS.2.2 dX4_isNext_36
    ·
      have i_2 : (f_kd e_at.toNatClampNeg).toInt = 62 := by have z := g5_neN (a := (f_kd e_at.toNatClampNeg).toInt) (b := 62) (by rfl) (by decide) c_2; omega
      refine lv_iconst (v := 1) hx hb dX4_isNext_31 (by decide) ?_
      refine lv_goto (tgt := 36) hx hb dX4_isNext_32 (by decide) ?_
      exact W.zret (v := 1) hx hb hr rfl (fun t ht hW => ⟨⟨1, [(a_r, (oc4 a_tk a_rh a_rs a_rc e_ln e_pa e_at e_fp)), (a_tk, (oc8 a_kd a_nm a_pl)), (a_kd, (arI G 401 f_kd))], rfl, Or.inl (⟨by omega, rfl, rfl⟩), by rw [ht]; exact hP.sub [0, 1, 2] rfl, hD.sub [0, 1, 2] (by decide) rfl⟩, hS.F ht⟩) hS.2.2 dX4_isNext_36
set_option maxHeartbeats 4000000 in
set_option maxRecDepth 100000 in
theorem r_isNextX61 (l : Launch) (G : g5_G) (a_r a_tk a_kd a_rh a_rs a_rc a_nm a_pl : Nat) (sz : Nat) (e_ln : Int32) (e_pa : Int32) (e_at : Int32) (e_fp : Int32) (f_kd : Nat → Int32) (h_e_ln : 0 ≤ e_ln.toInt ∧ e_ln.toInt ≤ 400) (h_e_pa : 0 ≤ e_pa.toInt ∧ e_pa.toInt ≤ 50) (h_e_at : 0 ≤ e_at.toInt ∧ e_at.toInt ≤ 401) (e_a4 : e_at.toInt ≤ 400) : Met l yX4_isNext (wsG yX4_isNext cX4_isNext 2 (some .boolean)) ({ frames := 0, cells := 0, slots := 0, locals := 0 }) (va_Pc [.ref a_r, .int 61] (g5_P G [(a_r, (oc4 a_tk a_rh a_rs a_rc e_ln e_pa e_at e_fp)), (a_tk, (oc8 a_kd a_nm a_pl)), (a_kd, (arI G 401 f_kd))] sz)) (va_Qi (fun (r : Int32) (u : va_W) => (((f_kd e_at.toNatClampNeg).toInt = 61) ∧ (r = 1) ∧ (u = [(a_r, (oc4 a_tk a_rh a_rs a_rc e_ln e_pa e_at e_fp)), (a_tk, (oc8 a_kd a_nm a_pl)), (a_kd, (arI G 401 f_kd))])) ∨ ((gNe (f_kd e_at.toNatClampNeg).toInt 61) ∧ (r = 0) ∧ (u = [(a_r, (oc4 a_tk a_rh a_rs a_rc e_ln e_pa e_at e_fp)), (a_tk, (oc8 a_kd a_nm a_pl)), (a_kd, (arI G 401 f_kd))]))) (g5_B G (va_A [(a_r, (oc4 a_tk a_rh a_rs a_rc e_ln e_pa e_at e_fp)), (a_tk, (oc8 a_kd a_nm a_pl)), (a_kd, (arI G 401 f_kd))] sz)) (va_A [(a_r, (oc4 a_tk a_rh a_rs a_rc e_ln e_pa e_at e_fp)), (a_tk, (oc8 a_kd a_nm a_pl)), (a_kd, (arI G 401 f_kd))] sz)) 0 0 (va_A [(a_r, (oc4 a_tk a_rh a_rs a_rc e_ln e_pa e_at e_fp)), (a_tk, (oc8 a_kd a_nm a_pl)), (a_kd, (arI G 401 f_kd))] sz) := by
  refine Met.ofW (cc := cX4_isNext) (maxL := 2) (ret := (some .boolean)) (by decide) rfl ?_
  intro p e s m args below meth c s₁ B hml hv
  obtain ⟨rfl, hsz, hP, hK, hD0, hN, hT⟩ := hv
  have hx := B.exec
  have hb := B.bytes
  have hr := B.returns
  have hts : ∀ w ∈ tblG, w.before _ s = true := fun w h => atoms_spec (ws := (wsG yX4_isNext cX4_isNext 2 (some .boolean))) B.pre w (List.mem_cons_of_mem _ h)
  have hown : s.vm.findClass RX4 = some m.cls := findClass_of_methodNamed B.named
  have hlocks := B.notSynchronized
  subst hsz
  have hD := hD0.self (sz := s.heap.size)
  generalize hAe : va_A [(a_r, (oc4 a_tk a_rh a_rs a_rc e_ln e_pa e_at e_fp)), (a_tk, (oc8 a_kd a_nm a_pl)), (a_kd, (arI G 401 f_kd))] s.heap.size = A at hD hT ⊢
  have hA : ∀ q : Nat, s.heap.size ≤ q → A q := fun q h => by rw [← hAe]; exact Or.inr h
  have hS : va_S A s.heap s.heap [] := va_S.rf
  have hP : va_P G.1 vwCl [(a_r, (oc4 a_tk a_rh a_rs a_rc e_ln e_pa e_at e_fp)), (a_tk, (oc8 a_kd a_nm a_pl)), (a_kd, (arI G 401 f_kd))] s.heap := hP
  have hl := lv_entry ([.ref a_r, .int 61]) (n := 2) (Nat.le_of_ble_eq_true rfl)
  rw [lg_entry_eq]
  generalize (lg_sl ([.ref a_r, .int 61]) ++ List.replicate (2 - (lg_sl ([.ref a_r, .int 61])).length) Slot.unset).toArray = ls at hl ⊢
  have hl : lv_has ls 2 [(0, .ref a_r), (1, .int 61)] := hl
  refine lv_aload_n hx hb dX4_isNext_0 rfl (lv_at hl 0 rfl) ?_
  refine va_get (D := G.1) (ci := 4) (v := .int e_at) (C := RX4) (T := TX4) (N := 8) hx hb hts inG_X4 hown hK hP 0 rfl rfl 6 (by decide) (hts _ fl_X4_42) (fun _ h9 => h9) rfl dX4_isNext_1 ?_
  refine lv_aload_n hx hb dX4_isNext_4 rfl (lv_at hl 0 rfl) ?_
  refine va_get (D := G.1) (ci := 4) (v := .ref a_tk) (C := RX4) (T := TX4) (N := 8) hx hb hts inG_X4 hown hK hP 0 rfl rfl 0 (by decide) (hts _ fl_X4_12) (fun _ h9 => h9) rfl dX4_isNext_5 ?_
  refine W.eq (g2 := F0 m 8 ls [.ref a_tk, .int e_at]) rfl ?_
  refine va_get (D := G.1) (ci := 8) (v := .ref a_kd) (C := RX8) (T := TX8) (N := 3) hx hb hts inG_X8 hown hK hP 1 rfl rfl 0 (by decide) (hts _ fl_X4_96) (fun _ h9 => h9) rfl dX4_isNext_8 ?_
  refine va_alen hx hb hK hP 2 0 rfl rfl (v := 401) (by show Int32.ofNat 401 = 401; decide) dX4_isNext_11 ?_
  refine lv_icmp_ge (tgt := 35) hx hb dX4_isNext_12 (by decide) (fun c_1 => ?_) (fun c_1 => ?_)
  ·
    have i_1 : e_at.toInt ≥ 401 := by have z := g5_ge (a := e_at.toInt) (b := 401) (by rfl) (by decide) c_1; omega
    refine lv_iconst (v := 0) hx hb dX4_isNext_35 (by decide) ?_
    exact W.zret (v := 0) hx hb hr rfl (fun t ht hW => ⟨⟨0, [(a_r, (oc4 a_tk a_rh a_rs a_rc e_ln e_pa e_at e_fp)), (a_tk, (oc8 a_kd a_nm a_pl)), (a_kd, (arI G 401 f_kd))], rfl, Or.inr (⟨by unfold gNe at *; omega, rfl, rfl⟩), by rw [ht]; exact hP.sub [0, 1, 2] rfl, hD.sub [0, 1, 2] (by decide) rfl⟩, hS.F ht⟩) hS.2.2 dX4_isNext_36
  ·
    have i_1 : e_at.toInt < 401 := by have z := g5_geN (a := e_at.toInt) (b := 401) (by rfl) (by decide) c_1; omega
    refine lv_aload_n hx hb dX4_isNext_15 rfl (lv_at hl 0 rfl) ?_
    refine va_get (D := G.1) (ci := 4) (v := .ref a_tk) (C := RX4) (T := TX4) (N := 8) hx hb hts inG_X4 hown hK hP 0 rfl rfl 0 (by decide) (hts _ fl_X4_12) (fun _ h9 => h9) rfl dX4_isNext_16 ?_
    refine va_get (D := G.1) (ci := 8) (v := .ref a_kd) (C := RX8) (T := TX8) (N := 3) hx hb hts inG_X8 hown hK hP 1 rfl rfl 0 (by decide) (hts _ fl_X4_96) (fun _ h9 => h9) rfl dX4_isNext_19 ?_
    refine lv_aload_n hx hb dX4_isNext_22 rfl (lv_at hl 0 rfl) ?_
    refine W.eq (g2 := F0 m 23 ls [.ref a_r, .ref a_kd]) rfl ?_
    refine va_get (D := G.1) (ci := 4) (v := .int e_at) (C := RX4) (T := TX4) (N := 8) hx hb hts inG_X4 hown hK hP 0 rfl rfl 6 (by decide) (hts _ fl_X4_42) (fun _ h9 => h9) rfl dX4_isNext_23 ?_
    refine va_iald hx hb hK hP 2 0 rfl rfl (i := e_at) (vp_in_iff.mpr ⟨by omega, by omega⟩) dX4_isNext_26 ?_
    refine lv_iload_n hx hb dX4_isNext_27 rfl (lv_at hl 1 rfl) ?_
    refine lv_icmp_ne (tgt := 35) hx hb dX4_isNext_28 (by decide) (fun c_2 => ?_) (fun c_2 => ?_)
    ·
      have n_2 : gNe ((f_kd e_at.toNatClampNeg).toInt) (61) := by have z := g5_ne (a := (f_kd e_at.toNatClampNeg).toInt) (b := 61) (by rfl) (by decide) c_2; unfold gNe; omega
      refine lv_iconst (v := 0) hx hb dX4_isNext_35 (by decide) ?_
      exact W.zret (v := 0) hx hb hr rfl (fun t ht hW => ⟨⟨0, [(a_r, (oc4 a_tk a_rh a_rs a_rc e_ln e_pa e_at e_fp)), (a_tk, (oc8 a_kd a_nm a_pl)), (a_kd, (arI G 401 f_kd))], rfl, Or.inr (⟨by unfold gNe at *; omega, rfl, rfl⟩), by rw [ht]; exact hP.sub [0, 1, 2] rfl, hD.sub [0, 1, 2] (by decide) rfl⟩, hS.F ht⟩) hS.2.2 dX4_isNext_36
    ·
      have i_2 : (f_kd e_at.toNatClampNeg).toInt = 61 := by have z := g5_neN (a := (f_kd e_at.toNatClampNeg).toInt) (b := 61) (by rfl) (by decide) c_2; omega
      refine lv_iconst (v := 1) hx hb dX4_isNext_31 (by decide) ?_
      refine lv_goto (tgt := 36) hx hb dX4_isNext_32 (by decide) ?_
      exact W.zret (v := 1) hx hb hr rfl (fun t ht hW => ⟨⟨1, [(a_r, (oc4 a_tk a_rh a_rs a_rc e_ln e_pa e_at e_fp)), (a_tk, (oc8 a_kd a_nm a_pl)), (a_kd, (arI G 401 f_kd))], rfl, Or.inl (⟨by omega, rfl, rfl⟩), by rw [ht]; exact hP.sub [0, 1, 2] rfl, hD.sub [0, 1, 2] (by decide) rfl⟩, hS.F ht⟩) hS.2.2 dX4_isNext_36
set_option maxHeartbeats 4000000 in
set_option maxRecDepth 100000 in
theorem r_isNextX300 (l : Launch) (G : g5_G) (a_r a_tk a_kd a_rh a_rs a_rc a_nm a_pl : Nat) (sz : Nat) (e_ln : Int32) (e_pa : Int32) (e_at : Int32) (e_fp : Int32) (f_kd : Nat → Int32) (h_e_ln : 0 ≤ e_ln.toInt ∧ e_ln.toInt ≤ 400) (h_e_pa : 0 ≤ e_pa.toInt ∧ e_pa.toInt ≤ 50) (h_e_at : 0 ≤ e_at.toInt ∧ e_at.toInt ≤ 401) (e_a4 : e_at.toInt ≤ 400) : Met l yX4_isNext (wsG yX4_isNext cX4_isNext 2 (some .boolean)) ({ frames := 0, cells := 0, slots := 0, locals := 0 }) (va_Pc [.ref a_r, .int 300] (g5_P G [(a_r, (oc4 a_tk a_rh a_rs a_rc e_ln e_pa e_at e_fp)), (a_tk, (oc8 a_kd a_nm a_pl)), (a_kd, (arI G 401 f_kd))] sz)) (va_Qi (fun (r : Int32) (u : va_W) => (((f_kd e_at.toNatClampNeg).toInt = 300) ∧ (r = 1) ∧ (u = [(a_r, (oc4 a_tk a_rh a_rs a_rc e_ln e_pa e_at e_fp)), (a_tk, (oc8 a_kd a_nm a_pl)), (a_kd, (arI G 401 f_kd))])) ∨ ((gNe (f_kd e_at.toNatClampNeg).toInt 300) ∧ (r = 0) ∧ (u = [(a_r, (oc4 a_tk a_rh a_rs a_rc e_ln e_pa e_at e_fp)), (a_tk, (oc8 a_kd a_nm a_pl)), (a_kd, (arI G 401 f_kd))]))) (g5_B G (va_A [(a_r, (oc4 a_tk a_rh a_rs a_rc e_ln e_pa e_at e_fp)), (a_tk, (oc8 a_kd a_nm a_pl)), (a_kd, (arI G 401 f_kd))] sz)) (va_A [(a_r, (oc4 a_tk a_rh a_rs a_rc e_ln e_pa e_at e_fp)), (a_tk, (oc8 a_kd a_nm a_pl)), (a_kd, (arI G 401 f_kd))] sz)) 0 0 (va_A [(a_r, (oc4 a_tk a_rh a_rs a_rc e_ln e_pa e_at e_fp)), (a_tk, (oc8 a_kd a_nm a_pl)), (a_kd, (arI G 401 f_kd))] sz) := by
  refine Met.ofW (cc := cX4_isNext) (maxL := 2) (ret := (some .boolean)) (by decide) rfl ?_
  intro p e s m args below meth c s₁ B hml hv
  obtain ⟨rfl, hsz, hP, hK, hD0, hN, hT⟩ := hv
  have hx := B.exec
  have hb := B.bytes
  have hr := B.returns
  have hts : ∀ w ∈ tblG, w.before _ s = true := fun w h => atoms_spec (ws := (wsG yX4_isNext cX4_isNext 2 (some .boolean))) B.pre w (List.mem_cons_of_mem _ h)
  have hown : s.vm.findClass RX4 = some m.cls := findClass_of_methodNamed B.named
  have hlocks := B.notSynchronized
  subst hsz
  have hD := hD0.self (sz := s.heap.size)
  generalize hAe : va_A [(a_r, (oc4 a_tk a_rh a_rs a_rc e_ln e_pa e_at e_fp)), (a_tk, (oc8 a_kd a_nm a_pl)), (a_kd, (arI G 401 f_kd))] s.heap.size = A at hD hT ⊢
  have hA : ∀ q : Nat, s.heap.size ≤ q → A q := fun q h => by rw [← hAe]; exact Or.inr h
  have hS : va_S A s.heap s.heap [] := va_S.rf
  have hP : va_P G.1 vwCl [(a_r, (oc4 a_tk a_rh a_rs a_rc e_ln e_pa e_at e_fp)), (a_tk, (oc8 a_kd a_nm a_pl)), (a_kd, (arI G 401 f_kd))] s.heap := hP
  have hl := lv_entry ([.ref a_r, .int 300]) (n := 2) (Nat.le_of_ble_eq_true rfl)
  rw [lg_entry_eq]
  generalize (lg_sl ([.ref a_r, .int 300]) ++ List.replicate (2 - (lg_sl ([.ref a_r, .int 300])).length) Slot.unset).toArray = ls at hl ⊢
  have hl : lv_has ls 2 [(0, .ref a_r), (1, .int 300)] := hl
  refine lv_aload_n hx hb dX4_isNext_0 rfl (lv_at hl 0 rfl) ?_
  refine va_get (D := G.1) (ci := 4) (v := .int e_at) (C := RX4) (T := TX4) (N := 8) hx hb hts inG_X4 hown hK hP 0 rfl rfl 6 (by decide) (hts _ fl_X4_42) (fun _ h9 => h9) rfl dX4_isNext_1 ?_
  refine lv_aload_n hx hb dX4_isNext_4 rfl (lv_at hl 0 rfl) ?_
  refine va_get (D := G.1) (ci := 4) (v := .ref a_tk) (C := RX4) (T := TX4) (N := 8) hx hb hts inG_X4 hown hK hP 0 rfl rfl 0 (by decide) (hts _ fl_X4_12) (fun _ h9 => h9) rfl dX4_isNext_5 ?_
  refine W.eq (g2 := F0 m 8 ls [.ref a_tk, .int e_at]) rfl ?_
  refine va_get (D := G.1) (ci := 8) (v := .ref a_kd) (C := RX8) (T := TX8) (N := 3) hx hb hts inG_X8 hown hK hP 1 rfl rfl 0 (by decide) (hts _ fl_X4_96) (fun _ h9 => h9) rfl dX4_isNext_8 ?_
  refine va_alen hx hb hK hP 2 0 rfl rfl (v := 401) (by show Int32.ofNat 401 = 401; decide) dX4_isNext_11 ?_
  refine lv_icmp_ge (tgt := 35) hx hb dX4_isNext_12 (by decide) (fun c_1 => ?_) (fun c_1 => ?_)
  ·
    have i_1 : e_at.toInt ≥ 401 := by have z := g5_ge (a := e_at.toInt) (b := 401) (by rfl) (by decide) c_1; omega
    refine lv_iconst (v := 0) hx hb dX4_isNext_35 (by decide) ?_
    exact W.zret (v := 0) hx hb hr rfl (fun t ht hW => ⟨⟨0, [(a_r, (oc4 a_tk a_rh a_rs a_rc e_ln e_pa e_at e_fp)), (a_tk, (oc8 a_kd a_nm a_pl)), (a_kd, (arI G 401 f_kd))], rfl, Or.inr (⟨by unfold gNe at *; omega, rfl, rfl⟩), by rw [ht]; exact hP.sub [0, 1, 2] rfl, hD.sub [0, 1, 2] (by decide) rfl⟩, hS.F ht⟩) hS.2.2 dX4_isNext_36
  ·
    have i_1 : e_at.toInt < 401 := by have z := g5_geN (a := e_at.toInt) (b := 401) (by rfl) (by decide) c_1; omega
    refine lv_aload_n hx hb dX4_isNext_15 rfl (lv_at hl 0 rfl) ?_
    refine va_get (D := G.1) (ci := 4) (v := .ref a_tk) (C := RX4) (T := TX4) (N := 8) hx hb hts inG_X4 hown hK hP 0 rfl rfl 0 (by decide) (hts _ fl_X4_12) (fun _ h9 => h9) rfl dX4_isNext_16 ?_
    refine va_get (D := G.1) (ci := 8) (v := .ref a_kd) (C := RX8) (T := TX8) (N := 3) hx hb hts inG_X8 hown hK hP 1 rfl rfl 0 (by decide) (hts _ fl_X4_96) (fun _ h9 => h9) rfl dX4_isNext_19 ?_
    refine lv_aload_n hx hb dX4_isNext_22 rfl (lv_at hl 0 rfl) ?_
    refine W.eq (g2 := F0 m 23 ls [.ref a_r, .ref a_kd]) rfl ?_
    refine va_get (D := G.1) (ci := 4) (v := .int e_at) (C := RX4) (T := TX4) (N := 8) hx hb hts inG_X4 hown hK hP 0 rfl rfl 6 (by decide) (hts _ fl_X4_42) (fun _ h9 => h9) rfl dX4_isNext_23 ?_
    refine va_iald hx hb hK hP 2 0 rfl rfl (i := e_at) (vp_in_iff.mpr ⟨by omega, by omega⟩) dX4_isNext_26 ?_
    refine lv_iload_n hx hb dX4_isNext_27 rfl (lv_at hl 1 rfl) ?_
    refine lv_icmp_ne (tgt := 35) hx hb dX4_isNext_28 (by decide) (fun c_2 => ?_) (fun c_2 => ?_)
    ·
      have n_2 : gNe ((f_kd e_at.toNatClampNeg).toInt) (300) := by have z := g5_ne (a := (f_kd e_at.toNatClampNeg).toInt) (b := 300) (by rfl) (by decide) c_2; unfold gNe; omega
      refine lv_iconst (v := 0) hx hb dX4_isNext_35 (by decide) ?_
      exact W.zret (v := 0) hx hb hr rfl (fun t ht hW => ⟨⟨0, [(a_r, (oc4 a_tk a_rh a_rs a_rc e_ln e_pa e_at e_fp)), (a_tk, (oc8 a_kd a_nm a_pl)), (a_kd, (arI G 401 f_kd))], rfl, Or.inr (⟨by unfold gNe at *; omega, rfl, rfl⟩), by rw [ht]; exact hP.sub [0, 1, 2] rfl, hD.sub [0, 1, 2] (by decide) rfl⟩, hS.F ht⟩) hS.2.2 dX4_isNext_36
    ·
      have i_2 : (f_kd e_at.toNatClampNeg).toInt = 300 := by have z := g5_neN (a := (f_kd e_at.toNatClampNeg).toInt) (b := 300) (by rfl) (by decide) c_2; omega
      refine lv_iconst (v := 1) hx hb dX4_isNext_31 (by decide) ?_
      refine lv_goto (tgt := 36) hx hb dX4_isNext_32 (by decide) ?_
      exact W.zret (v := 1) hx hb hr rfl (fun t ht hW => ⟨⟨1, [(a_r, (oc4 a_tk a_rh a_rs a_rc e_ln e_pa e_at e_fp)), (a_tk, (oc8 a_kd a_nm a_pl)), (a_kd, (arI G 401 f_kd))], rfl, Or.inl (⟨by omega, rfl, rfl⟩), by rw [ht]; exact hP.sub [0, 1, 2] rfl, hD.sub [0, 1, 2] (by decide) rfl⟩, hS.F ht⟩) hS.2.2 dX4_isNext_36
set_option maxHeartbeats 4000000 in
set_option maxRecDepth 100000 in
theorem r_isNextX261 (l : Launch) (G : g5_G) (a_r a_tk a_kd a_rh a_rs a_rc a_nm a_pl : Nat) (sz : Nat) (e_ln : Int32) (e_pa : Int32) (e_at : Int32) (e_fp : Int32) (f_kd : Nat → Int32) (h_e_ln : 0 ≤ e_ln.toInt ∧ e_ln.toInt ≤ 400) (h_e_pa : 0 ≤ e_pa.toInt ∧ e_pa.toInt ≤ 50) (h_e_at : 0 ≤ e_at.toInt ∧ e_at.toInt ≤ 401) (e_a4 : e_at.toInt ≤ 400) : Met l yX4_isNext (wsG yX4_isNext cX4_isNext 2 (some .boolean)) ({ frames := 0, cells := 0, slots := 0, locals := 0 }) (va_Pc [.ref a_r, .int 261] (g5_P G [(a_r, (oc4 a_tk a_rh a_rs a_rc e_ln e_pa e_at e_fp)), (a_tk, (oc8 a_kd a_nm a_pl)), (a_kd, (arI G 401 f_kd))] sz)) (va_Qi (fun (r : Int32) (u : va_W) => (((f_kd e_at.toNatClampNeg).toInt = 261) ∧ (r = 1) ∧ (u = [(a_r, (oc4 a_tk a_rh a_rs a_rc e_ln e_pa e_at e_fp)), (a_tk, (oc8 a_kd a_nm a_pl)), (a_kd, (arI G 401 f_kd))])) ∨ ((gNe (f_kd e_at.toNatClampNeg).toInt 261) ∧ (r = 0) ∧ (u = [(a_r, (oc4 a_tk a_rh a_rs a_rc e_ln e_pa e_at e_fp)), (a_tk, (oc8 a_kd a_nm a_pl)), (a_kd, (arI G 401 f_kd))]))) (g5_B G (va_A [(a_r, (oc4 a_tk a_rh a_rs a_rc e_ln e_pa e_at e_fp)), (a_tk, (oc8 a_kd a_nm a_pl)), (a_kd, (arI G 401 f_kd))] sz)) (va_A [(a_r, (oc4 a_tk a_rh a_rs a_rc e_ln e_pa e_at e_fp)), (a_tk, (oc8 a_kd a_nm a_pl)), (a_kd, (arI G 401 f_kd))] sz)) 0 0 (va_A [(a_r, (oc4 a_tk a_rh a_rs a_rc e_ln e_pa e_at e_fp)), (a_tk, (oc8 a_kd a_nm a_pl)), (a_kd, (arI G 401 f_kd))] sz) := by
  refine Met.ofW (cc := cX4_isNext) (maxL := 2) (ret := (some .boolean)) (by decide) rfl ?_
  intro p e s m args below meth c s₁ B hml hv
  obtain ⟨rfl, hsz, hP, hK, hD0, hN, hT⟩ := hv
  have hx := B.exec
  have hb := B.bytes
  have hr := B.returns
  have hts : ∀ w ∈ tblG, w.before _ s = true := fun w h => atoms_spec (ws := (wsG yX4_isNext cX4_isNext 2 (some .boolean))) B.pre w (List.mem_cons_of_mem _ h)
  have hown : s.vm.findClass RX4 = some m.cls := findClass_of_methodNamed B.named
  have hlocks := B.notSynchronized
  subst hsz
  have hD := hD0.self (sz := s.heap.size)
  generalize hAe : va_A [(a_r, (oc4 a_tk a_rh a_rs a_rc e_ln e_pa e_at e_fp)), (a_tk, (oc8 a_kd a_nm a_pl)), (a_kd, (arI G 401 f_kd))] s.heap.size = A at hD hT ⊢
  have hA : ∀ q : Nat, s.heap.size ≤ q → A q := fun q h => by rw [← hAe]; exact Or.inr h
  have hS : va_S A s.heap s.heap [] := va_S.rf
  have hP : va_P G.1 vwCl [(a_r, (oc4 a_tk a_rh a_rs a_rc e_ln e_pa e_at e_fp)), (a_tk, (oc8 a_kd a_nm a_pl)), (a_kd, (arI G 401 f_kd))] s.heap := hP
  have hl := lv_entry ([.ref a_r, .int 261]) (n := 2) (Nat.le_of_ble_eq_true rfl)
  rw [lg_entry_eq]
  generalize (lg_sl ([.ref a_r, .int 261]) ++ List.replicate (2 - (lg_sl ([.ref a_r, .int 261])).length) Slot.unset).toArray = ls at hl ⊢
  have hl : lv_has ls 2 [(0, .ref a_r), (1, .int 261)] := hl
  refine lv_aload_n hx hb dX4_isNext_0 rfl (lv_at hl 0 rfl) ?_
  refine va_get (D := G.1) (ci := 4) (v := .int e_at) (C := RX4) (T := TX4) (N := 8) hx hb hts inG_X4 hown hK hP 0 rfl rfl 6 (by decide) (hts _ fl_X4_42) (fun _ h9 => h9) rfl dX4_isNext_1 ?_
  refine lv_aload_n hx hb dX4_isNext_4 rfl (lv_at hl 0 rfl) ?_
  refine va_get (D := G.1) (ci := 4) (v := .ref a_tk) (C := RX4) (T := TX4) (N := 8) hx hb hts inG_X4 hown hK hP 0 rfl rfl 0 (by decide) (hts _ fl_X4_12) (fun _ h9 => h9) rfl dX4_isNext_5 ?_
  refine W.eq (g2 := F0 m 8 ls [.ref a_tk, .int e_at]) rfl ?_
  refine va_get (D := G.1) (ci := 8) (v := .ref a_kd) (C := RX8) (T := TX8) (N := 3) hx hb hts inG_X8 hown hK hP 1 rfl rfl 0 (by decide) (hts _ fl_X4_96) (fun _ h9 => h9) rfl dX4_isNext_8 ?_
  refine va_alen hx hb hK hP 2 0 rfl rfl (v := 401) (by show Int32.ofNat 401 = 401; decide) dX4_isNext_11 ?_
  refine lv_icmp_ge (tgt := 35) hx hb dX4_isNext_12 (by decide) (fun c_1 => ?_) (fun c_1 => ?_)
  ·
    have i_1 : e_at.toInt ≥ 401 := by have z := g5_ge (a := e_at.toInt) (b := 401) (by rfl) (by decide) c_1; omega
    refine lv_iconst (v := 0) hx hb dX4_isNext_35 (by decide) ?_
    exact W.zret (v := 0) hx hb hr rfl (fun t ht hW => ⟨⟨0, [(a_r, (oc4 a_tk a_rh a_rs a_rc e_ln e_pa e_at e_fp)), (a_tk, (oc8 a_kd a_nm a_pl)), (a_kd, (arI G 401 f_kd))], rfl, Or.inr (⟨by unfold gNe at *; omega, rfl, rfl⟩), by rw [ht]; exact hP.sub [0, 1, 2] rfl, hD.sub [0, 1, 2] (by decide) rfl⟩, hS.F ht⟩) hS.2.2 dX4_isNext_36
  ·
    have i_1 : e_at.toInt < 401 := by have z := g5_geN (a := e_at.toInt) (b := 401) (by rfl) (by decide) c_1; omega
    refine lv_aload_n hx hb dX4_isNext_15 rfl (lv_at hl 0 rfl) ?_
    refine va_get (D := G.1) (ci := 4) (v := .ref a_tk) (C := RX4) (T := TX4) (N := 8) hx hb hts inG_X4 hown hK hP 0 rfl rfl 0 (by decide) (hts _ fl_X4_12) (fun _ h9 => h9) rfl dX4_isNext_16 ?_
    refine va_get (D := G.1) (ci := 8) (v := .ref a_kd) (C := RX8) (T := TX8) (N := 3) hx hb hts inG_X8 hown hK hP 1 rfl rfl 0 (by decide) (hts _ fl_X4_96) (fun _ h9 => h9) rfl dX4_isNext_19 ?_
    refine lv_aload_n hx hb dX4_isNext_22 rfl (lv_at hl 0 rfl) ?_
    refine W.eq (g2 := F0 m 23 ls [.ref a_r, .ref a_kd]) rfl ?_
    refine va_get (D := G.1) (ci := 4) (v := .int e_at) (C := RX4) (T := TX4) (N := 8) hx hb hts inG_X4 hown hK hP 0 rfl rfl 6 (by decide) (hts _ fl_X4_42) (fun _ h9 => h9) rfl dX4_isNext_23 ?_
    refine va_iald hx hb hK hP 2 0 rfl rfl (i := e_at) (vp_in_iff.mpr ⟨by omega, by omega⟩) dX4_isNext_26 ?_
    refine lv_iload_n hx hb dX4_isNext_27 rfl (lv_at hl 1 rfl) ?_
    refine lv_icmp_ne (tgt := 35) hx hb dX4_isNext_28 (by decide) (fun c_2 => ?_) (fun c_2 => ?_)
    ·
      have n_2 : gNe ((f_kd e_at.toNatClampNeg).toInt) (261) := by have z := g5_ne (a := (f_kd e_at.toNatClampNeg).toInt) (b := 261) (by rfl) (by decide) c_2; unfold gNe; omega
      refine lv_iconst (v := 0) hx hb dX4_isNext_35 (by decide) ?_
      exact W.zret (v := 0) hx hb hr rfl (fun t ht hW => ⟨⟨0, [(a_r, (oc4 a_tk a_rh a_rs a_rc e_ln e_pa e_at e_fp)), (a_tk, (oc8 a_kd a_nm a_pl)), (a_kd, (arI G 401 f_kd))], rfl, Or.inr (⟨by unfold gNe at *; omega, rfl, rfl⟩), by rw [ht]; exact hP.sub [0, 1, 2] rfl, hD.sub [0, 1, 2] (by decide) rfl⟩, hS.F ht⟩) hS.2.2 dX4_isNext_36
    ·
      have i_2 : (f_kd e_at.toNatClampNeg).toInt = 261 := by have z := g5_neN (a := (f_kd e_at.toNatClampNeg).toInt) (b := 261) (by rfl) (by decide) c_2; omega
      refine lv_iconst (v := 1) hx hb dX4_isNext_31 (by decide) ?_
      refine lv_goto (tgt := 36) hx hb dX4_isNext_32 (by decide) ?_
      exact W.zret (v := 1) hx hb hr rfl (fun t ht hW => ⟨⟨1, [(a_r, (oc4 a_tk a_rh a_rs a_rc e_ln e_pa e_at e_fp)), (a_tk, (oc8 a_kd a_nm a_pl)), (a_kd, (arI G 401 f_kd))], rfl, Or.inl (⟨by omega, rfl, rfl⟩), by rw [ht]; exact hP.sub [0, 1, 2] rfl, hD.sub [0, 1, 2] (by decide) rfl⟩, hS.F ht⟩) hS.2.2 dX4_isNext_36
set_option maxHeartbeats 4000000 in
set_option maxRecDepth 100000 in
theorem r_isNextX262 (l : Launch) (G : g5_G) (a_r a_tk a_kd a_rh a_rs a_rc a_nm a_pl : Nat) (sz : Nat) (e_ln : Int32) (e_pa : Int32) (e_at : Int32) (e_fp : Int32) (f_kd : Nat → Int32) (h_e_ln : 0 ≤ e_ln.toInt ∧ e_ln.toInt ≤ 400) (h_e_pa : 0 ≤ e_pa.toInt ∧ e_pa.toInt ≤ 50) (h_e_at : 0 ≤ e_at.toInt ∧ e_at.toInt ≤ 401) (e_a4 : e_at.toInt ≤ 400) : Met l yX4_isNext (wsG yX4_isNext cX4_isNext 2 (some .boolean)) ({ frames := 0, cells := 0, slots := 0, locals := 0 }) (va_Pc [.ref a_r, .int 262] (g5_P G [(a_r, (oc4 a_tk a_rh a_rs a_rc e_ln e_pa e_at e_fp)), (a_tk, (oc8 a_kd a_nm a_pl)), (a_kd, (arI G 401 f_kd))] sz)) (va_Qi (fun (r : Int32) (u : va_W) => (((f_kd e_at.toNatClampNeg).toInt = 262) ∧ (r = 1) ∧ (u = [(a_r, (oc4 a_tk a_rh a_rs a_rc e_ln e_pa e_at e_fp)), (a_tk, (oc8 a_kd a_nm a_pl)), (a_kd, (arI G 401 f_kd))])) ∨ ((gNe (f_kd e_at.toNatClampNeg).toInt 262) ∧ (r = 0) ∧ (u = [(a_r, (oc4 a_tk a_rh a_rs a_rc e_ln e_pa e_at e_fp)), (a_tk, (oc8 a_kd a_nm a_pl)), (a_kd, (arI G 401 f_kd))]))) (g5_B G (va_A [(a_r, (oc4 a_tk a_rh a_rs a_rc e_ln e_pa e_at e_fp)), (a_tk, (oc8 a_kd a_nm a_pl)), (a_kd, (arI G 401 f_kd))] sz)) (va_A [(a_r, (oc4 a_tk a_rh a_rs a_rc e_ln e_pa e_at e_fp)), (a_tk, (oc8 a_kd a_nm a_pl)), (a_kd, (arI G 401 f_kd))] sz)) 0 0 (va_A [(a_r, (oc4 a_tk a_rh a_rs a_rc e_ln e_pa e_at e_fp)), (a_tk, (oc8 a_kd a_nm a_pl)), (a_kd, (arI G 401 f_kd))] sz) := by
  refine Met.ofW (cc := cX4_isNext) (maxL := 2) (ret := (some .boolean)) (by decide) rfl ?_
  intro p e s m args below meth c s₁ B hml hv
  obtain ⟨rfl, hsz, hP, hK, hD0, hN, hT⟩ := hv
  have hx := B.exec
  have hb := B.bytes
  have hr := B.returns
  have hts : ∀ w ∈ tblG, w.before _ s = true := fun w h => atoms_spec (ws := (wsG yX4_isNext cX4_isNext 2 (some .boolean))) B.pre w (List.mem_cons_of_mem _ h)
  have hown : s.vm.findClass RX4 = some m.cls := findClass_of_methodNamed B.named
  have hlocks := B.notSynchronized
  subst hsz
  have hD := hD0.self (sz := s.heap.size)
  generalize hAe : va_A [(a_r, (oc4 a_tk a_rh a_rs a_rc e_ln e_pa e_at e_fp)), (a_tk, (oc8 a_kd a_nm a_pl)), (a_kd, (arI G 401 f_kd))] s.heap.size = A at hD hT ⊢
  have hA : ∀ q : Nat, s.heap.size ≤ q → A q := fun q h => by rw [← hAe]; exact Or.inr h
  have hS : va_S A s.heap s.heap [] := va_S.rf
  have hP : va_P G.1 vwCl [(a_r, (oc4 a_tk a_rh a_rs a_rc e_ln e_pa e_at e_fp)), (a_tk, (oc8 a_kd a_nm a_pl)), (a_kd, (arI G 401 f_kd))] s.heap := hP
  have hl := lv_entry ([.ref a_r, .int 262]) (n := 2) (Nat.le_of_ble_eq_true rfl)
  rw [lg_entry_eq]
  generalize (lg_sl ([.ref a_r, .int 262]) ++ List.replicate (2 - (lg_sl ([.ref a_r, .int 262])).length) Slot.unset).toArray = ls at hl ⊢
  have hl : lv_has ls 2 [(0, .ref a_r), (1, .int 262)] := hl
  refine lv_aload_n hx hb dX4_isNext_0 rfl (lv_at hl 0 rfl) ?_
  refine va_get (D := G.1) (ci := 4) (v := .int e_at) (C := RX4) (T := TX4) (N := 8) hx hb hts inG_X4 hown hK hP 0 rfl rfl 6 (by decide) (hts _ fl_X4_42) (fun _ h9 => h9) rfl dX4_isNext_1 ?_
  refine lv_aload_n hx hb dX4_isNext_4 rfl (lv_at hl 0 rfl) ?_
  refine va_get (D := G.1) (ci := 4) (v := .ref a_tk) (C := RX4) (T := TX4) (N := 8) hx hb hts inG_X4 hown hK hP 0 rfl rfl 0 (by decide) (hts _ fl_X4_12) (fun _ h9 => h9) rfl dX4_isNext_5 ?_
  refine W.eq (g2 := F0 m 8 ls [.ref a_tk, .int e_at]) rfl ?_
  refine va_get (D := G.1) (ci := 8) (v := .ref a_kd) (C := RX8) (T := TX8) (N := 3) hx hb hts inG_X8 hown hK hP 1 rfl rfl 0 (by decide) (hts _ fl_X4_96) (fun _ h9 => h9) rfl dX4_isNext_8 ?_
  refine va_alen hx hb hK hP 2 0 rfl rfl (v := 401) (by show Int32.ofNat 401 = 401; decide) dX4_isNext_11 ?_
  refine lv_icmp_ge (tgt := 35) hx hb dX4_isNext_12 (by decide) (fun c_1 => ?_) (fun c_1 => ?_)
  ·
    have i_1 : e_at.toInt ≥ 401 := by have z := g5_ge (a := e_at.toInt) (b := 401) (by rfl) (by decide) c_1; omega
    refine lv_iconst (v := 0) hx hb dX4_isNext_35 (by decide) ?_
    exact W.zret (v := 0) hx hb hr rfl (fun t ht hW => ⟨⟨0, [(a_r, (oc4 a_tk a_rh a_rs a_rc e_ln e_pa e_at e_fp)), (a_tk, (oc8 a_kd a_nm a_pl)), (a_kd, (arI G 401 f_kd))], rfl, Or.inr (⟨by unfold gNe at *; omega, rfl, rfl⟩), by rw [ht]; exact hP.sub [0, 1, 2] rfl, hD.sub [0, 1, 2] (by decide) rfl⟩, hS.F ht⟩) hS.2.2 dX4_isNext_36
  ·
    have i_1 : e_at.toInt < 401 := by have z := g5_geN (a := e_at.toInt) (b := 401) (by rfl) (by decide) c_1; omega
    refine lv_aload_n hx hb dX4_isNext_15 rfl (lv_at hl 0 rfl) ?_
    refine va_get (D := G.1) (ci := 4) (v := .ref a_tk) (C := RX4) (T := TX4) (N := 8) hx hb hts inG_X4 hown hK hP 0 rfl rfl 0 (by decide) (hts _ fl_X4_12) (fun _ h9 => h9) rfl dX4_isNext_16 ?_
    refine va_get (D := G.1) (ci := 8) (v := .ref a_kd) (C := RX8) (T := TX8) (N := 3) hx hb hts inG_X8 hown hK hP 1 rfl rfl 0 (by decide) (hts _ fl_X4_96) (fun _ h9 => h9) rfl dX4_isNext_19 ?_
    refine lv_aload_n hx hb dX4_isNext_22 rfl (lv_at hl 0 rfl) ?_
    refine W.eq (g2 := F0 m 23 ls [.ref a_r, .ref a_kd]) rfl ?_
    refine va_get (D := G.1) (ci := 4) (v := .int e_at) (C := RX4) (T := TX4) (N := 8) hx hb hts inG_X4 hown hK hP 0 rfl rfl 6 (by decide) (hts _ fl_X4_42) (fun _ h9 => h9) rfl dX4_isNext_23 ?_
    refine va_iald hx hb hK hP 2 0 rfl rfl (i := e_at) (vp_in_iff.mpr ⟨by omega, by omega⟩) dX4_isNext_26 ?_
    refine lv_iload_n hx hb dX4_isNext_27 rfl (lv_at hl 1 rfl) ?_
    refine lv_icmp_ne (tgt := 35) hx hb dX4_isNext_28 (by decide) (fun c_2 => ?_) (fun c_2 => ?_)
    ·
      have n_2 : gNe ((f_kd e_at.toNatClampNeg).toInt) (262) := by have z := g5_ne (a := (f_kd e_at.toNatClampNeg).toInt) (b := 262) (by rfl) (by decide) c_2; unfold gNe; omega
      refine lv_iconst (v := 0) hx hb dX4_isNext_35 (by decide) ?_
      exact W.zret (v := 0) hx hb hr rfl (fun t ht hW => ⟨⟨0, [(a_r, (oc4 a_tk a_rh a_rs a_rc e_ln e_pa e_at e_fp)), (a_tk, (oc8 a_kd a_nm a_pl)), (a_kd, (arI G 401 f_kd))], rfl, Or.inr (⟨by unfold gNe at *; omega, rfl, rfl⟩), by rw [ht]; exact hP.sub [0, 1, 2] rfl, hD.sub [0, 1, 2] (by decide) rfl⟩, hS.F ht⟩) hS.2.2 dX4_isNext_36
    ·
      have i_2 : (f_kd e_at.toNatClampNeg).toInt = 262 := by have z := g5_neN (a := (f_kd e_at.toNatClampNeg).toInt) (b := 262) (by rfl) (by decide) c_2; omega
      refine lv_iconst (v := 1) hx hb dX4_isNext_31 (by decide) ?_
      refine lv_goto (tgt := 36) hx hb dX4_isNext_32 (by decide) ?_
      exact W.zret (v := 1) hx hb hr rfl (fun t ht hW => ⟨⟨1, [(a_r, (oc4 a_tk a_rh a_rs a_rc e_ln e_pa e_at e_fp)), (a_tk, (oc8 a_kd a_nm a_pl)), (a_kd, (arI G 401 f_kd))], rfl, Or.inl (⟨by omega, rfl, rfl⟩), by rw [ht]; exact hP.sub [0, 1, 2] rfl, hD.sub [0, 1, 2] (by decide) rfl⟩, hS.F ht⟩) hS.2.2 dX4_isNext_36
set_option maxHeartbeats 4000000 in
set_option maxRecDepth 100000 in
theorem r_isNextX302 (l : Launch) (G : g5_G) (a_r a_tk a_kd a_rh a_rs a_rc a_nm a_pl : Nat) (sz : Nat) (e_ln : Int32) (e_pa : Int32) (e_at : Int32) (e_fp : Int32) (f_kd : Nat → Int32) (h_e_ln : 0 ≤ e_ln.toInt ∧ e_ln.toInt ≤ 400) (h_e_pa : 0 ≤ e_pa.toInt ∧ e_pa.toInt ≤ 50) (h_e_at : 0 ≤ e_at.toInt ∧ e_at.toInt ≤ 401) (e_a4 : e_at.toInt ≤ 400) : Met l yX4_isNext (wsG yX4_isNext cX4_isNext 2 (some .boolean)) ({ frames := 0, cells := 0, slots := 0, locals := 0 }) (va_Pc [.ref a_r, .int 302] (g5_P G [(a_r, (oc4 a_tk a_rh a_rs a_rc e_ln e_pa e_at e_fp)), (a_tk, (oc8 a_kd a_nm a_pl)), (a_kd, (arI G 401 f_kd))] sz)) (va_Qi (fun (r : Int32) (u : va_W) => (((f_kd e_at.toNatClampNeg).toInt = 302) ∧ (r = 1) ∧ (u = [(a_r, (oc4 a_tk a_rh a_rs a_rc e_ln e_pa e_at e_fp)), (a_tk, (oc8 a_kd a_nm a_pl)), (a_kd, (arI G 401 f_kd))])) ∨ ((gNe (f_kd e_at.toNatClampNeg).toInt 302) ∧ (r = 0) ∧ (u = [(a_r, (oc4 a_tk a_rh a_rs a_rc e_ln e_pa e_at e_fp)), (a_tk, (oc8 a_kd a_nm a_pl)), (a_kd, (arI G 401 f_kd))]))) (g5_B G (va_A [(a_r, (oc4 a_tk a_rh a_rs a_rc e_ln e_pa e_at e_fp)), (a_tk, (oc8 a_kd a_nm a_pl)), (a_kd, (arI G 401 f_kd))] sz)) (va_A [(a_r, (oc4 a_tk a_rh a_rs a_rc e_ln e_pa e_at e_fp)), (a_tk, (oc8 a_kd a_nm a_pl)), (a_kd, (arI G 401 f_kd))] sz)) 0 0 (va_A [(a_r, (oc4 a_tk a_rh a_rs a_rc e_ln e_pa e_at e_fp)), (a_tk, (oc8 a_kd a_nm a_pl)), (a_kd, (arI G 401 f_kd))] sz) := by
  refine Met.ofW (cc := cX4_isNext) (maxL := 2) (ret := (some .boolean)) (by decide) rfl ?_
  intro p e s m args below meth c s₁ B hml hv
  obtain ⟨rfl, hsz, hP, hK, hD0, hN, hT⟩ := hv
  have hx := B.exec
  have hb := B.bytes
  have hr := B.returns
  have hts : ∀ w ∈ tblG, w.before _ s = true := fun w h => atoms_spec (ws := (wsG yX4_isNext cX4_isNext 2 (some .boolean))) B.pre w (List.mem_cons_of_mem _ h)
  have hown : s.vm.findClass RX4 = some m.cls := findClass_of_methodNamed B.named
  have hlocks := B.notSynchronized
  subst hsz
  have hD := hD0.self (sz := s.heap.size)
  generalize hAe : va_A [(a_r, (oc4 a_tk a_rh a_rs a_rc e_ln e_pa e_at e_fp)), (a_tk, (oc8 a_kd a_nm a_pl)), (a_kd, (arI G 401 f_kd))] s.heap.size = A at hD hT ⊢
  have hA : ∀ q : Nat, s.heap.size ≤ q → A q := fun q h => by rw [← hAe]; exact Or.inr h
  have hS : va_S A s.heap s.heap [] := va_S.rf
  have hP : va_P G.1 vwCl [(a_r, (oc4 a_tk a_rh a_rs a_rc e_ln e_pa e_at e_fp)), (a_tk, (oc8 a_kd a_nm a_pl)), (a_kd, (arI G 401 f_kd))] s.heap := hP
  have hl := lv_entry ([.ref a_r, .int 302]) (n := 2) (Nat.le_of_ble_eq_true rfl)
  rw [lg_entry_eq]
  generalize (lg_sl ([.ref a_r, .int 302]) ++ List.replicate (2 - (lg_sl ([.ref a_r, .int 302])).length) Slot.unset).toArray = ls at hl ⊢
  have hl : lv_has ls 2 [(0, .ref a_r), (1, .int 302)] := hl
  refine lv_aload_n hx hb dX4_isNext_0 rfl (lv_at hl 0 rfl) ?_
  refine va_get (D := G.1) (ci := 4) (v := .int e_at) (C := RX4) (T := TX4) (N := 8) hx hb hts inG_X4 hown hK hP 0 rfl rfl 6 (by decide) (hts _ fl_X4_42) (fun _ h9 => h9) rfl dX4_isNext_1 ?_
  refine lv_aload_n hx hb dX4_isNext_4 rfl (lv_at hl 0 rfl) ?_
  refine va_get (D := G.1) (ci := 4) (v := .ref a_tk) (C := RX4) (T := TX4) (N := 8) hx hb hts inG_X4 hown hK hP 0 rfl rfl 0 (by decide) (hts _ fl_X4_12) (fun _ h9 => h9) rfl dX4_isNext_5 ?_
  refine W.eq (g2 := F0 m 8 ls [.ref a_tk, .int e_at]) rfl ?_
  refine va_get (D := G.1) (ci := 8) (v := .ref a_kd) (C := RX8) (T := TX8) (N := 3) hx hb hts inG_X8 hown hK hP 1 rfl rfl 0 (by decide) (hts _ fl_X4_96) (fun _ h9 => h9) rfl dX4_isNext_8 ?_
  refine va_alen hx hb hK hP 2 0 rfl rfl (v := 401) (by show Int32.ofNat 401 = 401; decide) dX4_isNext_11 ?_
  refine lv_icmp_ge (tgt := 35) hx hb dX4_isNext_12 (by decide) (fun c_1 => ?_) (fun c_1 => ?_)
  ·
    have i_1 : e_at.toInt ≥ 401 := by have z := g5_ge (a := e_at.toInt) (b := 401) (by rfl) (by decide) c_1; omega
    refine lv_iconst (v := 0) hx hb dX4_isNext_35 (by decide) ?_
    exact W.zret (v := 0) hx hb hr rfl (fun t ht hW => ⟨⟨0, [(a_r, (oc4 a_tk a_rh a_rs a_rc e_ln e_pa e_at e_fp)), (a_tk, (oc8 a_kd a_nm a_pl)), (a_kd, (arI G 401 f_kd))], rfl, Or.inr (⟨by unfold gNe at *; omega, rfl, rfl⟩), by rw [ht]; exact hP.sub [0, 1, 2] rfl, hD.sub [0, 1, 2] (by decide) rfl⟩, hS.F ht⟩) hS.2.2 dX4_isNext_36
  ·
    have i_1 : e_at.toInt < 401 := by have z := g5_geN (a := e_at.toInt) (b := 401) (by rfl) (by decide) c_1; omega
    refine lv_aload_n hx hb dX4_isNext_15 rfl (lv_at hl 0 rfl) ?_
    refine va_get (D := G.1) (ci := 4) (v := .ref a_tk) (C := RX4) (T := TX4) (N := 8) hx hb hts inG_X4 hown hK hP 0 rfl rfl 0 (by decide) (hts _ fl_X4_12) (fun _ h9 => h9) rfl dX4_isNext_16 ?_
    refine va_get (D := G.1) (ci := 8) (v := .ref a_kd) (C := RX8) (T := TX8) (N := 3) hx hb hts inG_X8 hown hK hP 1 rfl rfl 0 (by decide) (hts _ fl_X4_96) (fun _ h9 => h9) rfl dX4_isNext_19 ?_
    refine lv_aload_n hx hb dX4_isNext_22 rfl (lv_at hl 0 rfl) ?_
    refine W.eq (g2 := F0 m 23 ls [.ref a_r, .ref a_kd]) rfl ?_
    refine va_get (D := G.1) (ci := 4) (v := .int e_at) (C := RX4) (T := TX4) (N := 8) hx hb hts inG_X4 hown hK hP 0 rfl rfl 6 (by decide) (hts _ fl_X4_42) (fun _ h9 => h9) rfl dX4_isNext_23 ?_
    refine va_iald hx hb hK hP 2 0 rfl rfl (i := e_at) (vp_in_iff.mpr ⟨by omega, by omega⟩) dX4_isNext_26 ?_
    refine lv_iload_n hx hb dX4_isNext_27 rfl (lv_at hl 1 rfl) ?_
    refine lv_icmp_ne (tgt := 35) hx hb dX4_isNext_28 (by decide) (fun c_2 => ?_) (fun c_2 => ?_)
    ·
      have n_2 : gNe ((f_kd e_at.toNatClampNeg).toInt) (302) := by have z := g5_ne (a := (f_kd e_at.toNatClampNeg).toInt) (b := 302) (by rfl) (by decide) c_2; unfold gNe; omega
      refine lv_iconst (v := 0) hx hb dX4_isNext_35 (by decide) ?_
      exact W.zret (v := 0) hx hb hr rfl (fun t ht hW => ⟨⟨0, [(a_r, (oc4 a_tk a_rh a_rs a_rc e_ln e_pa e_at e_fp)), (a_tk, (oc8 a_kd a_nm a_pl)), (a_kd, (arI G 401 f_kd))], rfl, Or.inr (⟨by unfold gNe at *; omega, rfl, rfl⟩), by rw [ht]; exact hP.sub [0, 1, 2] rfl, hD.sub [0, 1, 2] (by decide) rfl⟩, hS.F ht⟩) hS.2.2 dX4_isNext_36
    ·
      have i_2 : (f_kd e_at.toNatClampNeg).toInt = 302 := by have z := g5_neN (a := (f_kd e_at.toNatClampNeg).toInt) (b := 302) (by rfl) (by decide) c_2; omega
      refine lv_iconst (v := 1) hx hb dX4_isNext_31 (by decide) ?_
      refine lv_goto (tgt := 36) hx hb dX4_isNext_32 (by decide) ?_
      exact W.zret (v := 1) hx hb hr rfl (fun t ht hW => ⟨⟨1, [(a_r, (oc4 a_tk a_rh a_rs a_rc e_ln e_pa e_at e_fp)), (a_tk, (oc8 a_kd a_nm a_pl)), (a_kd, (arI G 401 f_kd))], rfl, Or.inl (⟨by omega, rfl, rfl⟩), by rw [ht]; exact hP.sub [0, 1, 2] rfl, hD.sub [0, 1, 2] (by decide) rfl⟩, hS.F ht⟩) hS.2.2 dX4_isNext_36
set_option maxHeartbeats 4000000 in
set_option maxRecDepth 100000 in
theorem r_passedX91 (l : Launch) (G : g5_G) (a_r a_tk a_kd a_rh a_rs a_rc a_nm a_pl : Nat) (sz : Nat) (e_ln : Int32) (e_pa : Int32) (e_at : Int32) (e_fp : Int32) (f_kd : Nat → Int32) (h_e_ln : 0 ≤ e_ln.toInt ∧ e_ln.toInt ≤ 400) (h_e_pa : 0 ≤ e_pa.toInt ∧ e_pa.toInt ≤ 50) (h_e_at : 0 ≤ e_at.toInt ∧ e_at.toInt ≤ 401) (e_a4 : e_at.toInt ≤ 400) : Met l yX4_passed (wsG yX4_passed cX4_passed 3 (some .boolean)) ({ frames := 0, cells := 0, slots := 0, locals := 0 }) (va_Pc [.ref a_r, .int 91] (g5_P G [(a_r, (oc4 a_tk a_rh a_rs a_rc e_ln e_pa e_at e_fp)), (a_tk, (oc8 a_kd a_nm a_pl)), (a_kd, (arI G 401 f_kd))] sz)) (va_Qi (fun (r : Int32) (u : va_W) => (∃ (o_at : Int32), (0 ≤ o_at.toInt ∧ o_at.toInt ≤ 401) ∧ (o_at.toInt = e_at.toInt + 1) ∧ ((f_kd e_at.toNatClampNeg).toInt = 91) ∧ (r = 1) ∧ (u = [(a_r, (oc4 a_tk a_rh a_rs a_rc e_ln e_pa o_at e_fp)), (a_tk, (oc8 a_kd a_nm a_pl)), (a_kd, (arI G 401 f_kd))])) ∨ (∃ (o_at : Int32), (0 ≤ o_at.toInt ∧ o_at.toInt ≤ 401) ∧ (o_at.toInt = e_at.toInt) ∧ (gNe (f_kd e_at.toNatClampNeg).toInt 91) ∧ (r = 0) ∧ (u = [(a_r, (oc4 a_tk a_rh a_rs a_rc e_ln e_pa o_at e_fp)), (a_tk, (oc8 a_kd a_nm a_pl)), (a_kd, (arI G 401 f_kd))]))) (g5_B G (va_A [(a_r, (oc4 a_tk a_rh a_rs a_rc e_ln e_pa e_at e_fp)), (a_tk, (oc8 a_kd a_nm a_pl)), (a_kd, (arI G 401 f_kd))] sz)) (va_A [(a_r, (oc4 a_tk a_rh a_rs a_rc e_ln e_pa e_at e_fp)), (a_tk, (oc8 a_kd a_nm a_pl)), (a_kd, (arI G 401 f_kd))] sz)) 0 0 (va_A [(a_r, (oc4 a_tk a_rh a_rs a_rc e_ln e_pa e_at e_fp)), (a_tk, (oc8 a_kd a_nm a_pl)), (a_kd, (arI G 401 f_kd))] sz) := by
  refine Met.ofW (cc := cX4_passed) (maxL := 3) (ret := (some .boolean)) (by decide +kernel) rfl ?_
  intro p e s m args below meth c s₁ B hml hv
  obtain ⟨rfl, hsz, hP, hK, hD0, hN, hT⟩ := hv
  have hx := B.exec
  have hb := B.bytes
  have hr := B.returns
  have hts : ∀ w ∈ tblG, w.before _ s = true := fun w h => atoms_spec (ws := (wsG yX4_passed cX4_passed 3 (some .boolean))) B.pre w (List.mem_cons_of_mem _ h)
  have hown : s.vm.findClass RX4 = some m.cls := findClass_of_methodNamed B.named
  have hlocks := B.notSynchronized
  subst hsz
  have hD := hD0.self (sz := s.heap.size)
  generalize hAe : va_A [(a_r, (oc4 a_tk a_rh a_rs a_rc e_ln e_pa e_at e_fp)), (a_tk, (oc8 a_kd a_nm a_pl)), (a_kd, (arI G 401 f_kd))] s.heap.size = A at hD hT ⊢
  have hA : ∀ q : Nat, s.heap.size ≤ q → A q := fun q h => by rw [← hAe]; exact Or.inr h
  have hS : va_S A s.heap s.heap [] := va_S.rf
  replace hP : va_P G.1 vwCl [(a_r, (oc4 a_tk a_rh a_rs a_rc e_ln e_pa e_at e_fp)), (a_tk, (oc8 a_kd a_nm a_pl)), (a_kd, (arI G 401 f_kd))] s.heap := hP
  have hl := lv_entry ([.ref a_r, .int 91]) (n := 3) (Nat.le_of_ble_eq_true rfl)
  rw [lg_entry_eq]
  generalize (lg_sl ([.ref a_r, .int 91]) ++ List.replicate (3 - (lg_sl ([.ref a_r, .int 91])).length) Slot.unset).toArray = ls at hl ⊢
  replace hl : lv_has ls 3 [(0, .ref a_r), (1, .int 91)] := hl
  refine lv_aload_n hx hb dX4_passed_0 rfl (lv_at hl 0 rfl) ?_
  refine va_get (D := G.1) (ci := 4) (v := .int e_at) (C := RX4) (T := TX4) (N := 8) hx hb hts inG_X4 hown hK hP 0 rfl rfl 6 (by decide +kernel) (hts _ fl_X4_42) (fun _ h9 => h9) rfl dX4_passed_1 ?_
  refine lv_aload_n hx hb dX4_passed_4 rfl (lv_at hl 0 rfl) ?_
  refine va_get (D := G.1) (ci := 4) (v := .ref a_tk) (C := RX4) (T := TX4) (N := 8) hx hb hts inG_X4 hown hK hP 0 rfl rfl 0 (by decide +kernel) (hts _ fl_X4_12) (fun _ h9 => h9) rfl dX4_passed_5 ?_
  refine W.eq (g2 := F0 m 8 ls [.ref a_tk, .int e_at]) rfl ?_
  refine va_get (D := G.1) (ci := 8) (v := .ref a_kd) (C := RX8) (T := TX8) (N := 3) hx hb hts inG_X8 hown hK hP 1 rfl rfl 0 (by decide +kernel) (hts _ fl_X4_96) (fun _ h9 => h9) rfl dX4_passed_8 ?_
  refine va_alen hx hb hK hP 2 0 rfl rfl (v := 401) (by show Int32.ofNat 401 = 401; decide) dX4_passed_11 ?_
  refine lv_icmp_ge (tgt := 35) hx hb dX4_passed_12 (by decide +kernel) (fun c_1 => ?_) (fun c_1 => ?_)
  ·
    have i_1 : e_at.toInt ≥ 401 := g5_ge (a := e_at.toInt) (b := 401) rfl (by decide +kernel) c_1
    refine lv_iconst (v := 0) hx hb dX4_passed_35 (by decide +kernel) ?_
    refine lv_istore_n (lv' := [(2, .int 0), (0, .ref a_r), (1, .int 91)]) hx hb dX4_passed_36 rfl hl (by decide +kernel) rfl ?_
    clear hl
    intro ls hl
    refine lv_aload_n hx hb dX4_passed_37 rfl (lv_at hl 1 rfl) ?_
    refine lv_dup hx hb dX4_passed_38 rfl ?_
    refine W.eq (g2 := F0 m 39 ls [.ref a_r, .ref a_r]) rfl ?_
    refine va_get (D := G.1) (ci := 4) (v := .int e_at) (C := RX4) (T := TX4) (N := 8) hx hb hts inG_X4 hown hK hP 0 rfl rfl 6 (by decide +kernel) (hts _ fl_X4_42) (fun _ h9 => h9) rfl dX4_passed_39 ?_
    refine lv_iload_n hx hb dX4_passed_42 rfl (lv_at hl 0 rfl) ?_
    refine lv_if_eq (tgt := 50) hx hb dX4_passed_43 (by decide +kernel) (fun c_2 => ?_) (fun c_2 => ?_)
    ·
      refine lv_iconst (v := 0) hx hb dX4_passed_50 (by decide +kernel) ?_
      refine lv_iadd hx hb dX4_passed_51 ?_
      refine g5_ti (v := e_at) (by simp) ?_
      refine va_put (D := G.1) (ci := 4) (v := .int e_at) (ty := .int) (C := RX4) (T := TX4) (N := 8) hx hb hts inG_X4 tyX4 tyX4_ok nmX4 hown hK hP hD hS 0 rfl rfl 6 (by decide +kernel) (hts _ fl_X4_42) (fun _ h9 => h9) rfl (by decide +kernel) rfl rfl (Nat.le_of_ble_eq_true rfl) dX4_passed_52 ?_
      clear hP hD hS
      intro H locs hP hD hS
      refine g5_rs [(a_r, (oc4 a_tk a_rh a_rs a_rc e_ln e_pa e_at e_fp)), (a_tk, (oc8 a_kd a_nm a_pl)), (a_kd, (arI G 401 f_kd))] hP hD ?_
      clear hP hD
      intro hP hD
      refine lv_iload_n hx hb dX4_passed_55 rfl (lv_at hl 0 rfl) ?_
      refine W.eq (g2 := F0 m 56 ls [.int 0]) rfl ?_
      exact W.zret (v := 0) hx hb hr rfl (fun t ht hW => ⟨⟨0, [(a_r, (oc4 a_tk a_rh a_rs a_rc e_ln e_pa e_at e_fp)), (a_tk, (oc8 a_kd a_nm a_pl)), (a_kd, (arI G 401 f_kd))], rfl, Or.inr (⟨e_at, h_e_at, by omega, by unfold gNe at *; omega, rfl, rfl⟩), by rw [ht]; exact hP.sub [0, 1, 2] rfl, hD.sub [0, 1, 2] (by decide +kernel) rfl⟩, hS.F ht⟩) hS.2.2 dX4_passed_56
    ·
      exact absurd c_2 (by decide +kernel)
  ·
    have i_1 : e_at.toInt < 401 := g5_geN (a := e_at.toInt) (b := 401) rfl (by decide +kernel) c_1
    refine lv_aload_n hx hb dX4_passed_15 rfl (lv_at hl 0 rfl) ?_
    refine va_get (D := G.1) (ci := 4) (v := .ref a_tk) (C := RX4) (T := TX4) (N := 8) hx hb hts inG_X4 hown hK hP 0 rfl rfl 0 (by decide +kernel) (hts _ fl_X4_12) (fun _ h9 => h9) rfl dX4_passed_16 ?_
    refine va_get (D := G.1) (ci := 8) (v := .ref a_kd) (C := RX8) (T := TX8) (N := 3) hx hb hts inG_X8 hown hK hP 1 rfl rfl 0 (by decide +kernel) (hts _ fl_X4_96) (fun _ h9 => h9) rfl dX4_passed_19 ?_
    refine lv_aload_n hx hb dX4_passed_22 rfl (lv_at hl 0 rfl) ?_
    refine W.eq (g2 := F0 m 23 ls [.ref a_r, .ref a_kd]) rfl ?_
    refine va_get (D := G.1) (ci := 4) (v := .int e_at) (C := RX4) (T := TX4) (N := 8) hx hb hts inG_X4 hown hK hP 0 rfl rfl 6 (by decide +kernel) (hts _ fl_X4_42) (fun _ h9 => h9) rfl dX4_passed_23 ?_
    refine va_iald hx hb hK hP 2 0 rfl rfl (i := e_at) (vp_in_iff.mpr ⟨by omega, by omega⟩) dX4_passed_26 ?_
    refine lv_iload_n hx hb dX4_passed_27 rfl (lv_at hl 1 rfl) ?_
    refine lv_icmp_ne (tgt := 35) hx hb dX4_passed_28 (by decide +kernel) (fun c_3 => ?_) (fun c_3 => ?_)
    ·
      have n_3 : gNe ((f_kd e_at.toNatClampNeg).toInt) (91) := g5_ne (a := (f_kd e_at.toNatClampNeg).toInt) (b := 91) rfl (by decide +kernel) c_3
      refine lv_iconst (v := 0) hx hb dX4_passed_35 (by decide +kernel) ?_
      refine lv_istore_n (lv' := [(2, .int 0), (0, .ref a_r), (1, .int 91)]) hx hb dX4_passed_36 rfl hl (by decide +kernel) rfl ?_
      clear hl
      intro ls hl
      refine lv_aload_n hx hb dX4_passed_37 rfl (lv_at hl 1 rfl) ?_
      refine lv_dup hx hb dX4_passed_38 rfl ?_
      refine W.eq (g2 := F0 m 39 ls [.ref a_r, .ref a_r]) rfl ?_
      refine va_get (D := G.1) (ci := 4) (v := .int e_at) (C := RX4) (T := TX4) (N := 8) hx hb hts inG_X4 hown hK hP 0 rfl rfl 6 (by decide +kernel) (hts _ fl_X4_42) (fun _ h9 => h9) rfl dX4_passed_39 ?_
      refine lv_iload_n hx hb dX4_passed_42 rfl (lv_at hl 0 rfl) ?_
      refine lv_if_eq (tgt := 50) hx hb dX4_passed_43 (by decide +kernel) (fun c_4 => ?_) (fun c_4 => ?_)
      ·
        refine lv_iconst (v := 0) hx hb dX4_passed_50 (by decide +kernel) ?_
        refine lv_iadd hx hb dX4_passed_51 ?_
        refine g5_ti (v := e_at) (by simp) ?_
        refine va_put (D := G.1) (ci := 4) (v := .int e_at) (ty := .int) (C := RX4) (T := TX4) (N := 8) hx hb hts inG_X4 tyX4 tyX4_ok nmX4 hown hK hP hD hS 0 rfl rfl 6 (by decide +kernel) (hts _ fl_X4_42) (fun _ h9 => h9) rfl (by decide +kernel) rfl rfl (Nat.le_of_ble_eq_true rfl) dX4_passed_52 ?_
        clear hP hD hS
        intro H locs hP hD hS
        refine g5_rs [(a_r, (oc4 a_tk a_rh a_rs a_rc e_ln e_pa e_at e_fp)), (a_tk, (oc8 a_kd a_nm a_pl)), (a_kd, (arI G 401 f_kd))] hP hD ?_
        clear hP hD
        intro hP hD
        refine lv_iload_n hx hb dX4_passed_55 rfl (lv_at hl 0 rfl) ?_
        refine W.eq (g2 := F0 m 56 ls [.int 0]) rfl ?_
        exact W.zret (v := 0) hx hb hr rfl (fun t ht hW => ⟨⟨0, [(a_r, (oc4 a_tk a_rh a_rs a_rc e_ln e_pa e_at e_fp)), (a_tk, (oc8 a_kd a_nm a_pl)), (a_kd, (arI G 401 f_kd))], rfl, Or.inr (⟨e_at, h_e_at, by omega, by unfold gNe at *; omega, rfl, rfl⟩), by rw [ht]; exact hP.sub [0, 1, 2] rfl, hD.sub [0, 1, 2] (by decide +kernel) rfl⟩, hS.F ht⟩) hS.2.2 dX4_passed_56
      ·
        exact absurd c_4 (by decide +kernel)
    ·
      have i_3 : (f_kd e_at.toNatClampNeg).toInt = 91 := g5_neN (a := (f_kd e_at.toNatClampNeg).toInt) (b := 91) rfl (by decide +kernel) c_3
      refine lv_iconst (v := 1) hx hb dX4_passed_31 (by decide +kernel) ?_
      refine lv_goto (tgt := 36) hx hb dX4_passed_32 (by decide +kernel) ?_
      refine lv_istore_n (lv' := [(2, .int 1), (0, .ref a_r), (1, .int 91)]) hx hb dX4_passed_36 rfl hl (by decide +kernel) rfl ?_
      clear hl
      intro ls hl
      refine lv_aload_n hx hb dX4_passed_37 rfl (lv_at hl 1 rfl) ?_
      refine W.eq (g2 := F0 m 38 ls [.ref a_r]) rfl ?_
      refine lv_dup hx hb dX4_passed_38 rfl ?_
      refine va_get (D := G.1) (ci := 4) (v := .int e_at) (C := RX4) (T := TX4) (N := 8) hx hb hts inG_X4 hown hK hP 0 rfl rfl 6 (by decide +kernel) (hts _ fl_X4_42) (fun _ h9 => h9) rfl dX4_passed_39 ?_
      refine lv_iload_n hx hb dX4_passed_42 rfl (lv_at hl 0 rfl) ?_
      refine lv_if_eq (tgt := 50) hx hb dX4_passed_43 (by decide +kernel) (fun c_5 => ?_) (fun c_5 => ?_)
      ·
        exact absurd c_5 (by decide +kernel)
      ·
        refine lv_iconst (v := 1) hx hb dX4_passed_46 (by decide +kernel) ?_
        refine lv_goto (tgt := 51) hx hb dX4_passed_47 (by decide +kernel) ?_
        refine lv_iadd hx hb dX4_passed_51 ?_
        have t_6 : (e_at + 1).toInt = e_at.toInt + 1 := g5_iadd (a := e_at.toInt) (b := 1) (by rfl) (by decide +kernel) (by omega) (by omega)
        refine va_put (D := G.1) (ci := 4) (v := .int (e_at + 1)) (ty := .int) (C := RX4) (T := TX4) (N := 8) hx hb hts inG_X4 tyX4 tyX4_ok nmX4 hown hK hP hD hS 0 rfl rfl 6 (by decide +kernel) (hts _ fl_X4_42) (fun _ h9 => h9) rfl (by decide +kernel) rfl rfl (Nat.le_of_ble_eq_true rfl) dX4_passed_52 ?_
        clear hP hD hS
        intro H locs hP hD hS
        refine g5_rs [(a_r, (oc4 a_tk a_rh a_rs a_rc e_ln e_pa (e_at + 1) e_fp)), (a_tk, (oc8 a_kd a_nm a_pl)), (a_kd, (arI G 401 f_kd))] hP hD ?_
        clear hP hD
        intro hP hD
        refine W.eq (g2 := F0 m 55 ls []) rfl ?_
        refine lv_iload_n hx hb dX4_passed_55 rfl (lv_at hl 0 rfl) ?_
        exact W.zret (v := 1) hx hb hr rfl (fun t ht hW => ⟨⟨1, [(a_r, (oc4 a_tk a_rh a_rs a_rc e_ln e_pa (e_at + 1) e_fp)), (a_tk, (oc8 a_kd a_nm a_pl)), (a_kd, (arI G 401 f_kd))], rfl, Or.inl (⟨(e_at + 1), ⟨by omega, by omega⟩, by omega, by omega, rfl, rfl⟩), by rw [ht]; exact hP.sub [0, 1, 2] rfl, hD.sub [0, 1, 2] (by decide +kernel) rfl⟩, hS.F ht⟩) hS.2.2 dX4_passed_56
set_option maxHeartbeats 4000000 in
set_option maxRecDepth 100000 in
theorem r_passedX93 (l : Launch) (G : g5_G) (a_r a_tk a_kd a_rh a_rs a_rc a_nm a_pl : Nat) (sz : Nat) (e_ln : Int32) (e_pa : Int32) (e_at : Int32) (e_fp : Int32) (f_kd : Nat → Int32) (h_e_ln : 0 ≤ e_ln.toInt ∧ e_ln.toInt ≤ 400) (h_e_pa : 0 ≤ e_pa.toInt ∧ e_pa.toInt ≤ 50) (h_e_at : 0 ≤ e_at.toInt ∧ e_at.toInt ≤ 401) (e_a4 : e_at.toInt ≤ 400) : Met l yX4_passed (wsG yX4_passed cX4_passed 3 (some .boolean)) ({ frames := 0, cells := 0, slots := 0, locals := 0 }) (va_Pc [.ref a_r, .int 93] (g5_P G [(a_r, (oc4 a_tk a_rh a_rs a_rc e_ln e_pa e_at e_fp)), (a_tk, (oc8 a_kd a_nm a_pl)), (a_kd, (arI G 401 f_kd))] sz)) (va_Qi (fun (r : Int32) (u : va_W) => (∃ (o_at : Int32), (0 ≤ o_at.toInt ∧ o_at.toInt ≤ 401) ∧ (o_at.toInt = e_at.toInt + 1) ∧ ((f_kd e_at.toNatClampNeg).toInt = 93) ∧ (r = 1) ∧ (u = [(a_r, (oc4 a_tk a_rh a_rs a_rc e_ln e_pa o_at e_fp)), (a_tk, (oc8 a_kd a_nm a_pl)), (a_kd, (arI G 401 f_kd))])) ∨ (∃ (o_at : Int32), (0 ≤ o_at.toInt ∧ o_at.toInt ≤ 401) ∧ (o_at.toInt = e_at.toInt) ∧ (gNe (f_kd e_at.toNatClampNeg).toInt 93) ∧ (r = 0) ∧ (u = [(a_r, (oc4 a_tk a_rh a_rs a_rc e_ln e_pa o_at e_fp)), (a_tk, (oc8 a_kd a_nm a_pl)), (a_kd, (arI G 401 f_kd))]))) (g5_B G (va_A [(a_r, (oc4 a_tk a_rh a_rs a_rc e_ln e_pa e_at e_fp)), (a_tk, (oc8 a_kd a_nm a_pl)), (a_kd, (arI G 401 f_kd))] sz)) (va_A [(a_r, (oc4 a_tk a_rh a_rs a_rc e_ln e_pa e_at e_fp)), (a_tk, (oc8 a_kd a_nm a_pl)), (a_kd, (arI G 401 f_kd))] sz)) 0 0 (va_A [(a_r, (oc4 a_tk a_rh a_rs a_rc e_ln e_pa e_at e_fp)), (a_tk, (oc8 a_kd a_nm a_pl)), (a_kd, (arI G 401 f_kd))] sz) := by
  refine Met.ofW (cc := cX4_passed) (maxL := 3) (ret := (some .boolean)) (by decide +kernel) rfl ?_
  intro p e s m args below meth c s₁ B hml hv
  obtain ⟨rfl, hsz, hP, hK, hD0, hN, hT⟩ := hv
  have hx := B.exec
  have hb := B.bytes
  have hr := B.returns
  have hts : ∀ w ∈ tblG, w.before _ s = true := fun w h => atoms_spec (ws := (wsG yX4_passed cX4_passed 3 (some .boolean))) B.pre w (List.mem_cons_of_mem _ h)
  have hown : s.vm.findClass RX4 = some m.cls := findClass_of_methodNamed B.named
  have hlocks := B.notSynchronized
  subst hsz
  have hD := hD0.self (sz := s.heap.size)
  generalize hAe : va_A [(a_r, (oc4 a_tk a_rh a_rs a_rc e_ln e_pa e_at e_fp)), (a_tk, (oc8 a_kd a_nm a_pl)), (a_kd, (arI G 401 f_kd))] s.heap.size = A at hD hT ⊢
  have hA : ∀ q : Nat, s.heap.size ≤ q → A q := fun q h => by rw [← hAe]; exact Or.inr h
  have hS : va_S A s.heap s.heap [] := va_S.rf
  replace hP : va_P G.1 vwCl [(a_r, (oc4 a_tk a_rh a_rs a_rc e_ln e_pa e_at e_fp)), (a_tk, (oc8 a_kd a_nm a_pl)), (a_kd, (arI G 401 f_kd))] s.heap := hP
  have hl := lv_entry ([.ref a_r, .int 93]) (n := 3) (Nat.le_of_ble_eq_true rfl)
  rw [lg_entry_eq]
  generalize (lg_sl ([.ref a_r, .int 93]) ++ List.replicate (3 - (lg_sl ([.ref a_r, .int 93])).length) Slot.unset).toArray = ls at hl ⊢
  replace hl : lv_has ls 3 [(0, .ref a_r), (1, .int 93)] := hl
  refine lv_aload_n hx hb dX4_passed_0 rfl (lv_at hl 0 rfl) ?_
  refine va_get (D := G.1) (ci := 4) (v := .int e_at) (C := RX4) (T := TX4) (N := 8) hx hb hts inG_X4 hown hK hP 0 rfl rfl 6 (by decide +kernel) (hts _ fl_X4_42) (fun _ h9 => h9) rfl dX4_passed_1 ?_
  refine lv_aload_n hx hb dX4_passed_4 rfl (lv_at hl 0 rfl) ?_
  refine va_get (D := G.1) (ci := 4) (v := .ref a_tk) (C := RX4) (T := TX4) (N := 8) hx hb hts inG_X4 hown hK hP 0 rfl rfl 0 (by decide +kernel) (hts _ fl_X4_12) (fun _ h9 => h9) rfl dX4_passed_5 ?_
  refine W.eq (g2 := F0 m 8 ls [.ref a_tk, .int e_at]) rfl ?_
  refine va_get (D := G.1) (ci := 8) (v := .ref a_kd) (C := RX8) (T := TX8) (N := 3) hx hb hts inG_X8 hown hK hP 1 rfl rfl 0 (by decide +kernel) (hts _ fl_X4_96) (fun _ h9 => h9) rfl dX4_passed_8 ?_
  refine va_alen hx hb hK hP 2 0 rfl rfl (v := 401) (by show Int32.ofNat 401 = 401; decide) dX4_passed_11 ?_
  refine lv_icmp_ge (tgt := 35) hx hb dX4_passed_12 (by decide +kernel) (fun c_1 => ?_) (fun c_1 => ?_)
  ·
    have i_1 : e_at.toInt ≥ 401 := g5_ge (a := e_at.toInt) (b := 401) rfl (by decide +kernel) c_1
    refine lv_iconst (v := 0) hx hb dX4_passed_35 (by decide +kernel) ?_
    refine lv_istore_n (lv' := [(2, .int 0), (0, .ref a_r), (1, .int 93)]) hx hb dX4_passed_36 rfl hl (by decide +kernel) rfl ?_
    clear hl
    intro ls hl
    refine lv_aload_n hx hb dX4_passed_37 rfl (lv_at hl 1 rfl) ?_
    refine lv_dup hx hb dX4_passed_38 rfl ?_
    refine W.eq (g2 := F0 m 39 ls [.ref a_r, .ref a_r]) rfl ?_
    refine va_get (D := G.1) (ci := 4) (v := .int e_at) (C := RX4) (T := TX4) (N := 8) hx hb hts inG_X4 hown hK hP 0 rfl rfl 6 (by decide +kernel) (hts _ fl_X4_42) (fun _ h9 => h9) rfl dX4_passed_39 ?_
    refine lv_iload_n hx hb dX4_passed_42 rfl (lv_at hl 0 rfl) ?_
    refine lv_if_eq (tgt := 50) hx hb dX4_passed_43 (by decide +kernel) (fun c_2 => ?_) (fun c_2 => ?_)
    ·
      refine lv_iconst (v := 0) hx hb dX4_passed_50 (by decide +kernel) ?_
      refine lv_iadd hx hb dX4_passed_51 ?_
      refine g5_ti (v := e_at) (by simp) ?_
      refine va_put (D := G.1) (ci := 4) (v := .int e_at) (ty := .int) (C := RX4) (T := TX4) (N := 8) hx hb hts inG_X4 tyX4 tyX4_ok nmX4 hown hK hP hD hS 0 rfl rfl 6 (by decide +kernel) (hts _ fl_X4_42) (fun _ h9 => h9) rfl (by decide +kernel) rfl rfl (Nat.le_of_ble_eq_true rfl) dX4_passed_52 ?_
      clear hP hD hS
      intro H locs hP hD hS
      refine g5_rs [(a_r, (oc4 a_tk a_rh a_rs a_rc e_ln e_pa e_at e_fp)), (a_tk, (oc8 a_kd a_nm a_pl)), (a_kd, (arI G 401 f_kd))] hP hD ?_
      clear hP hD
      intro hP hD
      refine lv_iload_n hx hb dX4_passed_55 rfl (lv_at hl 0 rfl) ?_
      refine W.eq (g2 := F0 m 56 ls [.int 0]) rfl ?_
      exact W.zret (v := 0) hx hb hr rfl (fun t ht hW => ⟨⟨0, [(a_r, (oc4 a_tk a_rh a_rs a_rc e_ln e_pa e_at e_fp)), (a_tk, (oc8 a_kd a_nm a_pl)), (a_kd, (arI G 401 f_kd))], rfl, Or.inr (⟨e_at, h_e_at, by omega, by unfold gNe at *; omega, rfl, rfl⟩), by rw [ht]; exact hP.sub [0, 1, 2] rfl, hD.sub [0, 1, 2] (by decide +kernel) rfl⟩, hS.F ht⟩) hS.2.2 dX4_passed_56
    ·
      exact absurd c_2 (by decide +kernel)
  ·
    have i_1 : e_at.toInt < 401 := g5_geN (a := e_at.toInt) (b := 401) rfl (by decide +kernel) c_1
    refine lv_aload_n hx hb dX4_passed_15 rfl (lv_at hl 0 rfl) ?_
    refine va_get (D := G.1) (ci := 4) (v := .ref a_tk) (C := RX4) (T := TX4) (N := 8) hx hb hts inG_X4 hown hK hP 0 rfl rfl 0 (by decide +kernel) (hts _ fl_X4_12) (fun _ h9 => h9) rfl dX4_passed_16 ?_
    refine va_get (D := G.1) (ci := 8) (v := .ref a_kd) (C := RX8) (T := TX8) (N := 3) hx hb hts inG_X8 hown hK hP 1 rfl rfl 0 (by decide +kernel) (hts _ fl_X4_96) (fun _ h9 => h9) rfl dX4_passed_19 ?_
    refine lv_aload_n hx hb dX4_passed_22 rfl (lv_at hl 0 rfl) ?_
    refine W.eq (g2 := F0 m 23 ls [.ref a_r, .ref a_kd]) rfl ?_
    refine va_get (D := G.1) (ci := 4) (v := .int e_at) (C := RX4) (T := TX4) (N := 8) hx hb hts inG_X4 hown hK hP 0 rfl rfl 6 (by decide +kernel) (hts _ fl_X4_42) (fun _ h9 => h9) rfl dX4_passed_23 ?_
    refine va_iald hx hb hK hP 2 0 rfl rfl (i := e_at) (vp_in_iff.mpr ⟨by omega, by omega⟩) dX4_passed_26 ?_
    refine lv_iload_n hx hb dX4_passed_27 rfl (lv_at hl 1 rfl) ?_
    refine lv_icmp_ne (tgt := 35) hx hb dX4_passed_28 (by decide +kernel) (fun c_3 => ?_) (fun c_3 => ?_)
    ·
      have n_3 : gNe ((f_kd e_at.toNatClampNeg).toInt) (93) := g5_ne (a := (f_kd e_at.toNatClampNeg).toInt) (b := 93) rfl (by decide +kernel) c_3
      refine lv_iconst (v := 0) hx hb dX4_passed_35 (by decide +kernel) ?_
      refine lv_istore_n (lv' := [(2, .int 0), (0, .ref a_r), (1, .int 93)]) hx hb dX4_passed_36 rfl hl (by decide +kernel) rfl ?_
      clear hl
      intro ls hl
      refine lv_aload_n hx hb dX4_passed_37 rfl (lv_at hl 1 rfl) ?_
      refine lv_dup hx hb dX4_passed_38 rfl ?_
      refine W.eq (g2 := F0 m 39 ls [.ref a_r, .ref a_r]) rfl ?_
      refine va_get (D := G.1) (ci := 4) (v := .int e_at) (C := RX4) (T := TX4) (N := 8) hx hb hts inG_X4 hown hK hP 0 rfl rfl 6 (by decide +kernel) (hts _ fl_X4_42) (fun _ h9 => h9) rfl dX4_passed_39 ?_
      refine lv_iload_n hx hb dX4_passed_42 rfl (lv_at hl 0 rfl) ?_
      refine lv_if_eq (tgt := 50) hx hb dX4_passed_43 (by decide +kernel) (fun c_4 => ?_) (fun c_4 => ?_)
      ·
        refine lv_iconst (v := 0) hx hb dX4_passed_50 (by decide +kernel) ?_
        refine lv_iadd hx hb dX4_passed_51 ?_
        refine g5_ti (v := e_at) (by simp) ?_
        refine va_put (D := G.1) (ci := 4) (v := .int e_at) (ty := .int) (C := RX4) (T := TX4) (N := 8) hx hb hts inG_X4 tyX4 tyX4_ok nmX4 hown hK hP hD hS 0 rfl rfl 6 (by decide +kernel) (hts _ fl_X4_42) (fun _ h9 => h9) rfl (by decide +kernel) rfl rfl (Nat.le_of_ble_eq_true rfl) dX4_passed_52 ?_
        clear hP hD hS
        intro H locs hP hD hS
        refine g5_rs [(a_r, (oc4 a_tk a_rh a_rs a_rc e_ln e_pa e_at e_fp)), (a_tk, (oc8 a_kd a_nm a_pl)), (a_kd, (arI G 401 f_kd))] hP hD ?_
        clear hP hD
        intro hP hD
        refine lv_iload_n hx hb dX4_passed_55 rfl (lv_at hl 0 rfl) ?_
        refine W.eq (g2 := F0 m 56 ls [.int 0]) rfl ?_
        exact W.zret (v := 0) hx hb hr rfl (fun t ht hW => ⟨⟨0, [(a_r, (oc4 a_tk a_rh a_rs a_rc e_ln e_pa e_at e_fp)), (a_tk, (oc8 a_kd a_nm a_pl)), (a_kd, (arI G 401 f_kd))], rfl, Or.inr (⟨e_at, h_e_at, by omega, by unfold gNe at *; omega, rfl, rfl⟩), by rw [ht]; exact hP.sub [0, 1, 2] rfl, hD.sub [0, 1, 2] (by decide +kernel) rfl⟩, hS.F ht⟩) hS.2.2 dX4_passed_56
      ·
        exact absurd c_4 (by decide +kernel)
    ·
      have i_3 : (f_kd e_at.toNatClampNeg).toInt = 93 := g5_neN (a := (f_kd e_at.toNatClampNeg).toInt) (b := 93) rfl (by decide +kernel) c_3
      refine lv_iconst (v := 1) hx hb dX4_passed_31 (by decide +kernel) ?_
      refine lv_goto (tgt := 36) hx hb dX4_passed_32 (by decide +kernel) ?_
      refine lv_istore_n (lv' := [(2, .int 1), (0, .ref a_r), (1, .int 93)]) hx hb dX4_passed_36 rfl hl (by decide +kernel) rfl ?_
      clear hl
      intro ls hl
      refine lv_aload_n hx hb dX4_passed_37 rfl (lv_at hl 1 rfl) ?_
      refine W.eq (g2 := F0 m 38 ls [.ref a_r]) rfl ?_
      refine lv_dup hx hb dX4_passed_38 rfl ?_
      refine va_get (D := G.1) (ci := 4) (v := .int e_at) (C := RX4) (T := TX4) (N := 8) hx hb hts inG_X4 hown hK hP 0 rfl rfl 6 (by decide +kernel) (hts _ fl_X4_42) (fun _ h9 => h9) rfl dX4_passed_39 ?_
      refine lv_iload_n hx hb dX4_passed_42 rfl (lv_at hl 0 rfl) ?_
      refine lv_if_eq (tgt := 50) hx hb dX4_passed_43 (by decide +kernel) (fun c_5 => ?_) (fun c_5 => ?_)
      ·
        exact absurd c_5 (by decide +kernel)
      ·
        refine lv_iconst (v := 1) hx hb dX4_passed_46 (by decide +kernel) ?_
        refine lv_goto (tgt := 51) hx hb dX4_passed_47 (by decide +kernel) ?_
        refine lv_iadd hx hb dX4_passed_51 ?_
        have t_6 : (e_at + 1).toInt = e_at.toInt + 1 := g5_iadd (a := e_at.toInt) (b := 1) (by rfl) (by decide +kernel) (by omega) (by omega)
        refine va_put (D := G.1) (ci := 4) (v := .int (e_at + 1)) (ty := .int) (C := RX4) (T := TX4) (N := 8) hx hb hts inG_X4 tyX4 tyX4_ok nmX4 hown hK hP hD hS 0 rfl rfl 6 (by decide +kernel) (hts _ fl_X4_42) (fun _ h9 => h9) rfl (by decide +kernel) rfl rfl (Nat.le_of_ble_eq_true rfl) dX4_passed_52 ?_
        clear hP hD hS
        intro H locs hP hD hS
        refine g5_rs [(a_r, (oc4 a_tk a_rh a_rs a_rc e_ln e_pa (e_at + 1) e_fp)), (a_tk, (oc8 a_kd a_nm a_pl)), (a_kd, (arI G 401 f_kd))] hP hD ?_
        clear hP hD
        intro hP hD
        refine W.eq (g2 := F0 m 55 ls []) rfl ?_
        refine lv_iload_n hx hb dX4_passed_55 rfl (lv_at hl 0 rfl) ?_
        exact W.zret (v := 1) hx hb hr rfl (fun t ht hW => ⟨⟨1, [(a_r, (oc4 a_tk a_rh a_rs a_rc e_ln e_pa (e_at + 1) e_fp)), (a_tk, (oc8 a_kd a_nm a_pl)), (a_kd, (arI G 401 f_kd))], rfl, Or.inl (⟨(e_at + 1), ⟨by omega, by omega⟩, by omega, by omega, rfl, rfl⟩), by rw [ht]; exact hP.sub [0, 1, 2] rfl, hD.sub [0, 1, 2] (by decide +kernel) rfl⟩, hS.F ht⟩) hS.2.2 dX4_passed_56
set_option maxHeartbeats 4000000 in
set_option maxRecDepth 100000 in
theorem r_passedX40 (l : Launch) (G : g5_G) (a_r a_tk a_kd a_rh a_rs a_rc a_nm a_pl : Nat) (sz : Nat) (e_ln : Int32) (e_pa : Int32) (e_at : Int32) (e_fp : Int32) (f_kd : Nat → Int32) (h_e_ln : 0 ≤ e_ln.toInt ∧ e_ln.toInt ≤ 400) (h_e_pa : 0 ≤ e_pa.toInt ∧ e_pa.toInt ≤ 50) (h_e_at : 0 ≤ e_at.toInt ∧ e_at.toInt ≤ 401) (e_a4 : e_at.toInt ≤ 400) : Met l yX4_passed (wsG yX4_passed cX4_passed 3 (some .boolean)) ({ frames := 0, cells := 0, slots := 0, locals := 0 }) (va_Pc [.ref a_r, .int 40] (g5_P G [(a_r, (oc4 a_tk a_rh a_rs a_rc e_ln e_pa e_at e_fp)), (a_tk, (oc8 a_kd a_nm a_pl)), (a_kd, (arI G 401 f_kd))] sz)) (va_Qi (fun (r : Int32) (u : va_W) => (∃ (o_at : Int32), (0 ≤ o_at.toInt ∧ o_at.toInt ≤ 401) ∧ (o_at.toInt = e_at.toInt + 1) ∧ ((f_kd e_at.toNatClampNeg).toInt = 40) ∧ (r = 1) ∧ (u = [(a_r, (oc4 a_tk a_rh a_rs a_rc e_ln e_pa o_at e_fp)), (a_tk, (oc8 a_kd a_nm a_pl)), (a_kd, (arI G 401 f_kd))])) ∨ (∃ (o_at : Int32), (0 ≤ o_at.toInt ∧ o_at.toInt ≤ 401) ∧ (o_at.toInt = e_at.toInt) ∧ (gNe (f_kd e_at.toNatClampNeg).toInt 40) ∧ (r = 0) ∧ (u = [(a_r, (oc4 a_tk a_rh a_rs a_rc e_ln e_pa o_at e_fp)), (a_tk, (oc8 a_kd a_nm a_pl)), (a_kd, (arI G 401 f_kd))]))) (g5_B G (va_A [(a_r, (oc4 a_tk a_rh a_rs a_rc e_ln e_pa e_at e_fp)), (a_tk, (oc8 a_kd a_nm a_pl)), (a_kd, (arI G 401 f_kd))] sz)) (va_A [(a_r, (oc4 a_tk a_rh a_rs a_rc e_ln e_pa e_at e_fp)), (a_tk, (oc8 a_kd a_nm a_pl)), (a_kd, (arI G 401 f_kd))] sz)) 0 0 (va_A [(a_r, (oc4 a_tk a_rh a_rs a_rc e_ln e_pa e_at e_fp)), (a_tk, (oc8 a_kd a_nm a_pl)), (a_kd, (arI G 401 f_kd))] sz) := by
  refine Met.ofW (cc := cX4_passed) (maxL := 3) (ret := (some .boolean)) (by decide +kernel) rfl ?_
  intro p e s m args below meth c s₁ B hml hv
  obtain ⟨rfl, hsz, hP, hK, hD0, hN, hT⟩ := hv
  have hx := B.exec
  have hb := B.bytes
  have hr := B.returns
  have hts : ∀ w ∈ tblG, w.before _ s = true := fun w h => atoms_spec (ws := (wsG yX4_passed cX4_passed 3 (some .boolean))) B.pre w (List.mem_cons_of_mem _ h)
  have hown : s.vm.findClass RX4 = some m.cls := findClass_of_methodNamed B.named
  have hlocks := B.notSynchronized
  subst hsz
  have hD := hD0.self (sz := s.heap.size)
  generalize hAe : va_A [(a_r, (oc4 a_tk a_rh a_rs a_rc e_ln e_pa e_at e_fp)), (a_tk, (oc8 a_kd a_nm a_pl)), (a_kd, (arI G 401 f_kd))] s.heap.size = A at hD hT ⊢
  have hA : ∀ q : Nat, s.heap.size ≤ q → A q := fun q h => by rw [← hAe]; exact Or.inr h
  have hS : va_S A s.heap s.heap [] := va_S.rf
  replace hP : va_P G.1 vwCl [(a_r, (oc4 a_tk a_rh a_rs a_rc e_ln e_pa e_at e_fp)), (a_tk, (oc8 a_kd a_nm a_pl)), (a_kd, (arI G 401 f_kd))] s.heap := hP
  have hl := lv_entry ([.ref a_r, .int 40]) (n := 3) (Nat.le_of_ble_eq_true rfl)
  rw [lg_entry_eq]
  generalize (lg_sl ([.ref a_r, .int 40]) ++ List.replicate (3 - (lg_sl ([.ref a_r, .int 40])).length) Slot.unset).toArray = ls at hl ⊢
  replace hl : lv_has ls 3 [(0, .ref a_r), (1, .int 40)] := hl
  refine lv_aload_n hx hb dX4_passed_0 rfl (lv_at hl 0 rfl) ?_
  refine va_get (D := G.1) (ci := 4) (v := .int e_at) (C := RX4) (T := TX4) (N := 8) hx hb hts inG_X4 hown hK hP 0 rfl rfl 6 (by decide +kernel) (hts _ fl_X4_42) (fun _ h9 => h9) rfl dX4_passed_1 ?_
  refine lv_aload_n hx hb dX4_passed_4 rfl (lv_at hl 0 rfl) ?_
  refine va_get (D := G.1) (ci := 4) (v := .ref a_tk) (C := RX4) (T := TX4) (N := 8) hx hb hts inG_X4 hown hK hP 0 rfl rfl 0 (by decide +kernel) (hts _ fl_X4_12) (fun _ h9 => h9) rfl dX4_passed_5 ?_
  refine W.eq (g2 := F0 m 8 ls [.ref a_tk, .int e_at]) rfl ?_
  refine va_get (D := G.1) (ci := 8) (v := .ref a_kd) (C := RX8) (T := TX8) (N := 3) hx hb hts inG_X8 hown hK hP 1 rfl rfl 0 (by decide +kernel) (hts _ fl_X4_96) (fun _ h9 => h9) rfl dX4_passed_8 ?_
  refine va_alen hx hb hK hP 2 0 rfl rfl (v := 401) (by show Int32.ofNat 401 = 401; decide) dX4_passed_11 ?_
  refine lv_icmp_ge (tgt := 35) hx hb dX4_passed_12 (by decide +kernel) (fun c_1 => ?_) (fun c_1 => ?_)
  ·
    have i_1 : e_at.toInt ≥ 401 := g5_ge (a := e_at.toInt) (b := 401) rfl (by decide +kernel) c_1
    refine lv_iconst (v := 0) hx hb dX4_passed_35 (by decide +kernel) ?_
    refine lv_istore_n (lv' := [(2, .int 0), (0, .ref a_r), (1, .int 40)]) hx hb dX4_passed_36 rfl hl (by decide +kernel) rfl ?_
    clear hl
    intro ls hl
    refine lv_aload_n hx hb dX4_passed_37 rfl (lv_at hl 1 rfl) ?_
    refine lv_dup hx hb dX4_passed_38 rfl ?_
    refine W.eq (g2 := F0 m 39 ls [.ref a_r, .ref a_r]) rfl ?_
    refine va_get (D := G.1) (ci := 4) (v := .int e_at) (C := RX4) (T := TX4) (N := 8) hx hb hts inG_X4 hown hK hP 0 rfl rfl 6 (by decide +kernel) (hts _ fl_X4_42) (fun _ h9 => h9) rfl dX4_passed_39 ?_
    refine lv_iload_n hx hb dX4_passed_42 rfl (lv_at hl 0 rfl) ?_
    refine lv_if_eq (tgt := 50) hx hb dX4_passed_43 (by decide +kernel) (fun c_2 => ?_) (fun c_2 => ?_)
    ·
      refine lv_iconst (v := 0) hx hb dX4_passed_50 (by decide +kernel) ?_
      refine lv_iadd hx hb dX4_passed_51 ?_
      refine g5_ti (v := e_at) (by simp) ?_
      refine va_put (D := G.1) (ci := 4) (v := .int e_at) (ty := .int) (C := RX4) (T := TX4) (N := 8) hx hb hts inG_X4 tyX4 tyX4_ok nmX4 hown hK hP hD hS 0 rfl rfl 6 (by decide +kernel) (hts _ fl_X4_42) (fun _ h9 => h9) rfl (by decide +kernel) rfl rfl (Nat.le_of_ble_eq_true rfl) dX4_passed_52 ?_
      clear hP hD hS
      intro H locs hP hD hS
      refine g5_rs [(a_r, (oc4 a_tk a_rh a_rs a_rc e_ln e_pa e_at e_fp)), (a_tk, (oc8 a_kd a_nm a_pl)), (a_kd, (arI G 401 f_kd))] hP hD ?_
      clear hP hD
      intro hP hD
      refine lv_iload_n hx hb dX4_passed_55 rfl (lv_at hl 0 rfl) ?_
      refine W.eq (g2 := F0 m 56 ls [.int 0]) rfl ?_
      exact W.zret (v := 0) hx hb hr rfl (fun t ht hW => ⟨⟨0, [(a_r, (oc4 a_tk a_rh a_rs a_rc e_ln e_pa e_at e_fp)), (a_tk, (oc8 a_kd a_nm a_pl)), (a_kd, (arI G 401 f_kd))], rfl, Or.inr (⟨e_at, h_e_at, by omega, by unfold gNe at *; omega, rfl, rfl⟩), by rw [ht]; exact hP.sub [0, 1, 2] rfl, hD.sub [0, 1, 2] (by decide +kernel) rfl⟩, hS.F ht⟩) hS.2.2 dX4_passed_56
    ·
      exact absurd c_2 (by decide +kernel)
  ·
    have i_1 : e_at.toInt < 401 := g5_geN (a := e_at.toInt) (b := 401) rfl (by decide +kernel) c_1
    refine lv_aload_n hx hb dX4_passed_15 rfl (lv_at hl 0 rfl) ?_
    refine va_get (D := G.1) (ci := 4) (v := .ref a_tk) (C := RX4) (T := TX4) (N := 8) hx hb hts inG_X4 hown hK hP 0 rfl rfl 0 (by decide +kernel) (hts _ fl_X4_12) (fun _ h9 => h9) rfl dX4_passed_16 ?_
    refine va_get (D := G.1) (ci := 8) (v := .ref a_kd) (C := RX8) (T := TX8) (N := 3) hx hb hts inG_X8 hown hK hP 1 rfl rfl 0 (by decide +kernel) (hts _ fl_X4_96) (fun _ h9 => h9) rfl dX4_passed_19 ?_
    refine lv_aload_n hx hb dX4_passed_22 rfl (lv_at hl 0 rfl) ?_
    refine W.eq (g2 := F0 m 23 ls [.ref a_r, .ref a_kd]) rfl ?_
    refine va_get (D := G.1) (ci := 4) (v := .int e_at) (C := RX4) (T := TX4) (N := 8) hx hb hts inG_X4 hown hK hP 0 rfl rfl 6 (by decide +kernel) (hts _ fl_X4_42) (fun _ h9 => h9) rfl dX4_passed_23 ?_
    refine va_iald hx hb hK hP 2 0 rfl rfl (i := e_at) (vp_in_iff.mpr ⟨by omega, by omega⟩) dX4_passed_26 ?_
    refine lv_iload_n hx hb dX4_passed_27 rfl (lv_at hl 1 rfl) ?_
    refine lv_icmp_ne (tgt := 35) hx hb dX4_passed_28 (by decide +kernel) (fun c_3 => ?_) (fun c_3 => ?_)
    ·
      have n_3 : gNe ((f_kd e_at.toNatClampNeg).toInt) (40) := g5_ne (a := (f_kd e_at.toNatClampNeg).toInt) (b := 40) rfl (by decide +kernel) c_3
      refine lv_iconst (v := 0) hx hb dX4_passed_35 (by decide +kernel) ?_
      refine lv_istore_n (lv' := [(2, .int 0), (0, .ref a_r), (1, .int 40)]) hx hb dX4_passed_36 rfl hl (by decide +kernel) rfl ?_
      clear hl
      intro ls hl
      refine lv_aload_n hx hb dX4_passed_37 rfl (lv_at hl 1 rfl) ?_
      refine lv_dup hx hb dX4_passed_38 rfl ?_
      refine W.eq (g2 := F0 m 39 ls [.ref a_r, .ref a_r]) rfl ?_
      refine va_get (D := G.1) (ci := 4) (v := .int e_at) (C := RX4) (T := TX4) (N := 8) hx hb hts inG_X4 hown hK hP 0 rfl rfl 6 (by decide +kernel) (hts _ fl_X4_42) (fun _ h9 => h9) rfl dX4_passed_39 ?_
      refine lv_iload_n hx hb dX4_passed_42 rfl (lv_at hl 0 rfl) ?_
      refine lv_if_eq (tgt := 50) hx hb dX4_passed_43 (by decide +kernel) (fun c_4 => ?_) (fun c_4 => ?_)
      ·
        refine lv_iconst (v := 0) hx hb dX4_passed_50 (by decide +kernel) ?_
        refine lv_iadd hx hb dX4_passed_51 ?_
        refine g5_ti (v := e_at) (by simp) ?_
        refine va_put (D := G.1) (ci := 4) (v := .int e_at) (ty := .int) (C := RX4) (T := TX4) (N := 8) hx hb hts inG_X4 tyX4 tyX4_ok nmX4 hown hK hP hD hS 0 rfl rfl 6 (by decide +kernel) (hts _ fl_X4_42) (fun _ h9 => h9) rfl (by decide +kernel) rfl rfl (Nat.le_of_ble_eq_true rfl) dX4_passed_52 ?_
        clear hP hD hS
        intro H locs hP hD hS
        refine g5_rs [(a_r, (oc4 a_tk a_rh a_rs a_rc e_ln e_pa e_at e_fp)), (a_tk, (oc8 a_kd a_nm a_pl)), (a_kd, (arI G 401 f_kd))] hP hD ?_
        clear hP hD
        intro hP hD
        refine lv_iload_n hx hb dX4_passed_55 rfl (lv_at hl 0 rfl) ?_
        refine W.eq (g2 := F0 m 56 ls [.int 0]) rfl ?_
        exact W.zret (v := 0) hx hb hr rfl (fun t ht hW => ⟨⟨0, [(a_r, (oc4 a_tk a_rh a_rs a_rc e_ln e_pa e_at e_fp)), (a_tk, (oc8 a_kd a_nm a_pl)), (a_kd, (arI G 401 f_kd))], rfl, Or.inr (⟨e_at, h_e_at, by omega, by unfold gNe at *; omega, rfl, rfl⟩), by rw [ht]; exact hP.sub [0, 1, 2] rfl, hD.sub [0, 1, 2] (by decide +kernel) rfl⟩, hS.F ht⟩) hS.2.2 dX4_passed_56
      ·
        exact absurd c_4 (by decide +kernel)
    ·
      have i_3 : (f_kd e_at.toNatClampNeg).toInt = 40 := g5_neN (a := (f_kd e_at.toNatClampNeg).toInt) (b := 40) rfl (by decide +kernel) c_3
      refine lv_iconst (v := 1) hx hb dX4_passed_31 (by decide +kernel) ?_
      refine lv_goto (tgt := 36) hx hb dX4_passed_32 (by decide +kernel) ?_
      refine lv_istore_n (lv' := [(2, .int 1), (0, .ref a_r), (1, .int 40)]) hx hb dX4_passed_36 rfl hl (by decide +kernel) rfl ?_
      clear hl
      intro ls hl
      refine lv_aload_n hx hb dX4_passed_37 rfl (lv_at hl 1 rfl) ?_
      refine W.eq (g2 := F0 m 38 ls [.ref a_r]) rfl ?_
      refine lv_dup hx hb dX4_passed_38 rfl ?_
      refine va_get (D := G.1) (ci := 4) (v := .int e_at) (C := RX4) (T := TX4) (N := 8) hx hb hts inG_X4 hown hK hP 0 rfl rfl 6 (by decide +kernel) (hts _ fl_X4_42) (fun _ h9 => h9) rfl dX4_passed_39 ?_
      refine lv_iload_n hx hb dX4_passed_42 rfl (lv_at hl 0 rfl) ?_
      refine lv_if_eq (tgt := 50) hx hb dX4_passed_43 (by decide +kernel) (fun c_5 => ?_) (fun c_5 => ?_)
      ·
        exact absurd c_5 (by decide +kernel)
      ·
        refine lv_iconst (v := 1) hx hb dX4_passed_46 (by decide +kernel) ?_
        refine lv_goto (tgt := 51) hx hb dX4_passed_47 (by decide +kernel) ?_
        refine lv_iadd hx hb dX4_passed_51 ?_
        have t_6 : (e_at + 1).toInt = e_at.toInt + 1 := g5_iadd (a := e_at.toInt) (b := 1) (by rfl) (by decide +kernel) (by omega) (by omega)
        refine va_put (D := G.1) (ci := 4) (v := .int (e_at + 1)) (ty := .int) (C := RX4) (T := TX4) (N := 8) hx hb hts inG_X4 tyX4 tyX4_ok nmX4 hown hK hP hD hS 0 rfl rfl 6 (by decide +kernel) (hts _ fl_X4_42) (fun _ h9 => h9) rfl (by decide +kernel) rfl rfl (Nat.le_of_ble_eq_true rfl) dX4_passed_52 ?_
        clear hP hD hS
        intro H locs hP hD hS
        refine g5_rs [(a_r, (oc4 a_tk a_rh a_rs a_rc e_ln e_pa (e_at + 1) e_fp)), (a_tk, (oc8 a_kd a_nm a_pl)), (a_kd, (arI G 401 f_kd))] hP hD ?_
        clear hP hD
        intro hP hD
        refine W.eq (g2 := F0 m 55 ls []) rfl ?_
        refine lv_iload_n hx hb dX4_passed_55 rfl (lv_at hl 0 rfl) ?_
        exact W.zret (v := 1) hx hb hr rfl (fun t ht hW => ⟨⟨1, [(a_r, (oc4 a_tk a_rh a_rs a_rc e_ln e_pa (e_at + 1) e_fp)), (a_tk, (oc8 a_kd a_nm a_pl)), (a_kd, (arI G 401 f_kd))], rfl, Or.inl (⟨(e_at + 1), ⟨by omega, by omega⟩, by omega, by omega, rfl, rfl⟩), by rw [ht]; exact hP.sub [0, 1, 2] rfl, hD.sub [0, 1, 2] (by decide +kernel) rfl⟩, hS.F ht⟩) hS.2.2 dX4_passed_56
set_option maxHeartbeats 4000000 in
set_option maxRecDepth 100000 in
theorem r_passedX41 (l : Launch) (G : g5_G) (a_r a_tk a_kd a_rh a_rs a_rc a_nm a_pl : Nat) (sz : Nat) (e_ln : Int32) (e_pa : Int32) (e_at : Int32) (e_fp : Int32) (f_kd : Nat → Int32) (h_e_ln : 0 ≤ e_ln.toInt ∧ e_ln.toInt ≤ 400) (h_e_pa : 0 ≤ e_pa.toInt ∧ e_pa.toInt ≤ 50) (h_e_at : 0 ≤ e_at.toInt ∧ e_at.toInt ≤ 401) (e_a4 : e_at.toInt ≤ 400) : Met l yX4_passed (wsG yX4_passed cX4_passed 3 (some .boolean)) ({ frames := 0, cells := 0, slots := 0, locals := 0 }) (va_Pc [.ref a_r, .int 41] (g5_P G [(a_r, (oc4 a_tk a_rh a_rs a_rc e_ln e_pa e_at e_fp)), (a_tk, (oc8 a_kd a_nm a_pl)), (a_kd, (arI G 401 f_kd))] sz)) (va_Qi (fun (r : Int32) (u : va_W) => (∃ (o_at : Int32), (0 ≤ o_at.toInt ∧ o_at.toInt ≤ 401) ∧ (o_at.toInt = e_at.toInt + 1) ∧ ((f_kd e_at.toNatClampNeg).toInt = 41) ∧ (r = 1) ∧ (u = [(a_r, (oc4 a_tk a_rh a_rs a_rc e_ln e_pa o_at e_fp)), (a_tk, (oc8 a_kd a_nm a_pl)), (a_kd, (arI G 401 f_kd))])) ∨ (∃ (o_at : Int32), (0 ≤ o_at.toInt ∧ o_at.toInt ≤ 401) ∧ (o_at.toInt = e_at.toInt) ∧ (gNe (f_kd e_at.toNatClampNeg).toInt 41) ∧ (r = 0) ∧ (u = [(a_r, (oc4 a_tk a_rh a_rs a_rc e_ln e_pa o_at e_fp)), (a_tk, (oc8 a_kd a_nm a_pl)), (a_kd, (arI G 401 f_kd))]))) (g5_B G (va_A [(a_r, (oc4 a_tk a_rh a_rs a_rc e_ln e_pa e_at e_fp)), (a_tk, (oc8 a_kd a_nm a_pl)), (a_kd, (arI G 401 f_kd))] sz)) (va_A [(a_r, (oc4 a_tk a_rh a_rs a_rc e_ln e_pa e_at e_fp)), (a_tk, (oc8 a_kd a_nm a_pl)), (a_kd, (arI G 401 f_kd))] sz)) 0 0 (va_A [(a_r, (oc4 a_tk a_rh a_rs a_rc e_ln e_pa e_at e_fp)), (a_tk, (oc8 a_kd a_nm a_pl)), (a_kd, (arI G 401 f_kd))] sz) := by
  refine Met.ofW (cc := cX4_passed) (maxL := 3) (ret := (some .boolean)) (by decide +kernel) rfl ?_
  intro p e s m args below meth c s₁ B hml hv
  obtain ⟨rfl, hsz, hP, hK, hD0, hN, hT⟩ := hv
  have hx := B.exec
  have hb := B.bytes
  have hr := B.returns
  have hts : ∀ w ∈ tblG, w.before _ s = true := fun w h => atoms_spec (ws := (wsG yX4_passed cX4_passed 3 (some .boolean))) B.pre w (List.mem_cons_of_mem _ h)
  have hown : s.vm.findClass RX4 = some m.cls := findClass_of_methodNamed B.named
  have hlocks := B.notSynchronized
  subst hsz
  have hD := hD0.self (sz := s.heap.size)
  generalize hAe : va_A [(a_r, (oc4 a_tk a_rh a_rs a_rc e_ln e_pa e_at e_fp)), (a_tk, (oc8 a_kd a_nm a_pl)), (a_kd, (arI G 401 f_kd))] s.heap.size = A at hD hT ⊢
  have hA : ∀ q : Nat, s.heap.size ≤ q → A q := fun q h => by rw [← hAe]; exact Or.inr h
  have hS : va_S A s.heap s.heap [] := va_S.rf
  replace hP : va_P G.1 vwCl [(a_r, (oc4 a_tk a_rh a_rs a_rc e_ln e_pa e_at e_fp)), (a_tk, (oc8 a_kd a_nm a_pl)), (a_kd, (arI G 401 f_kd))] s.heap := hP
  have hl := lv_entry ([.ref a_r, .int 41]) (n := 3) (Nat.le_of_ble_eq_true rfl)
  rw [lg_entry_eq]
  generalize (lg_sl ([.ref a_r, .int 41]) ++ List.replicate (3 - (lg_sl ([.ref a_r, .int 41])).length) Slot.unset).toArray = ls at hl ⊢
  replace hl : lv_has ls 3 [(0, .ref a_r), (1, .int 41)] := hl
  refine lv_aload_n hx hb dX4_passed_0 rfl (lv_at hl 0 rfl) ?_
  refine va_get (D := G.1) (ci := 4) (v := .int e_at) (C := RX4) (T := TX4) (N := 8) hx hb hts inG_X4 hown hK hP 0 rfl rfl 6 (by decide +kernel) (hts _ fl_X4_42) (fun _ h9 => h9) rfl dX4_passed_1 ?_
  refine lv_aload_n hx hb dX4_passed_4 rfl (lv_at hl 0 rfl) ?_
  refine va_get (D := G.1) (ci := 4) (v := .ref a_tk) (C := RX4) (T := TX4) (N := 8) hx hb hts inG_X4 hown hK hP 0 rfl rfl 0 (by decide +kernel) (hts _ fl_X4_12) (fun _ h9 => h9) rfl dX4_passed_5 ?_
  refine W.eq (g2 := F0 m 8 ls [.ref a_tk, .int e_at]) rfl ?_
  refine va_get (D := G.1) (ci := 8) (v := .ref a_kd) (C := RX8) (T := TX8) (N := 3) hx hb hts inG_X8 hown hK hP 1 rfl rfl 0 (by decide +kernel) (hts _ fl_X4_96) (fun _ h9 => h9) rfl dX4_passed_8 ?_
  refine va_alen hx hb hK hP 2 0 rfl rfl (v := 401) (by show Int32.ofNat 401 = 401; decide) dX4_passed_11 ?_
  refine lv_icmp_ge (tgt := 35) hx hb dX4_passed_12 (by decide +kernel) (fun c_1 => ?_) (fun c_1 => ?_)
  ·
    have i_1 : e_at.toInt ≥ 401 := g5_ge (a := e_at.toInt) (b := 401) rfl (by decide +kernel) c_1
    refine lv_iconst (v := 0) hx hb dX4_passed_35 (by decide +kernel) ?_
    refine lv_istore_n (lv' := [(2, .int 0), (0, .ref a_r), (1, .int 41)]) hx hb dX4_passed_36 rfl hl (by decide +kernel) rfl ?_
    clear hl
    intro ls hl
    refine lv_aload_n hx hb dX4_passed_37 rfl (lv_at hl 1 rfl) ?_
    refine lv_dup hx hb dX4_passed_38 rfl ?_
    refine W.eq (g2 := F0 m 39 ls [.ref a_r, .ref a_r]) rfl ?_
    refine va_get (D := G.1) (ci := 4) (v := .int e_at) (C := RX4) (T := TX4) (N := 8) hx hb hts inG_X4 hown hK hP 0 rfl rfl 6 (by decide +kernel) (hts _ fl_X4_42) (fun _ h9 => h9) rfl dX4_passed_39 ?_
    refine lv_iload_n hx hb dX4_passed_42 rfl (lv_at hl 0 rfl) ?_
    refine lv_if_eq (tgt := 50) hx hb dX4_passed_43 (by decide +kernel) (fun c_2 => ?_) (fun c_2 => ?_)
    ·
      refine lv_iconst (v := 0) hx hb dX4_passed_50 (by decide +kernel) ?_
      refine lv_iadd hx hb dX4_passed_51 ?_
      refine g5_ti (v := e_at) (by simp) ?_
      refine va_put (D := G.1) (ci := 4) (v := .int e_at) (ty := .int) (C := RX4) (T := TX4) (N := 8) hx hb hts inG_X4 tyX4 tyX4_ok nmX4 hown hK hP hD hS 0 rfl rfl 6 (by decide +kernel) (hts _ fl_X4_42) (fun _ h9 => h9) rfl (by decide +kernel) rfl rfl (Nat.le_of_ble_eq_true rfl) dX4_passed_52 ?_
      clear hP hD hS
      intro H locs hP hD hS
      refine g5_rs [(a_r, (oc4 a_tk a_rh a_rs a_rc e_ln e_pa e_at e_fp)), (a_tk, (oc8 a_kd a_nm a_pl)), (a_kd, (arI G 401 f_kd))] hP hD ?_
      clear hP hD
      intro hP hD
      refine lv_iload_n hx hb dX4_passed_55 rfl (lv_at hl 0 rfl) ?_
      refine W.eq (g2 := F0 m 56 ls [.int 0]) rfl ?_
      exact W.zret (v := 0) hx hb hr rfl (fun t ht hW => ⟨⟨0, [(a_r, (oc4 a_tk a_rh a_rs a_rc e_ln e_pa e_at e_fp)), (a_tk, (oc8 a_kd a_nm a_pl)), (a_kd, (arI G 401 f_kd))], rfl, Or.inr (⟨e_at, h_e_at, by omega, by unfold gNe at *; omega, rfl, rfl⟩), by rw [ht]; exact hP.sub [0, 1, 2] rfl, hD.sub [0, 1, 2] (by decide +kernel) rfl⟩, hS.F ht⟩) hS.2.2 dX4_passed_56
    ·
      exact absurd c_2 (by decide +kernel)
  ·
    have i_1 : e_at.toInt < 401 := g5_geN (a := e_at.toInt) (b := 401) rfl (by decide +kernel) c_1
    refine lv_aload_n hx hb dX4_passed_15 rfl (lv_at hl 0 rfl) ?_
    refine va_get (D := G.1) (ci := 4) (v := .ref a_tk) (C := RX4) (T := TX4) (N := 8) hx hb hts inG_X4 hown hK hP 0 rfl rfl 0 (by decide +kernel) (hts _ fl_X4_12) (fun _ h9 => h9) rfl dX4_passed_16 ?_
    refine va_get (D := G.1) (ci := 8) (v := .ref a_kd) (C := RX8) (T := TX8) (N := 3) hx hb hts inG_X8 hown hK hP 1 rfl rfl 0 (by decide +kernel) (hts _ fl_X4_96) (fun _ h9 => h9) rfl dX4_passed_19 ?_
    refine lv_aload_n hx hb dX4_passed_22 rfl (lv_at hl 0 rfl) ?_
    refine W.eq (g2 := F0 m 23 ls [.ref a_r, .ref a_kd]) rfl ?_
    refine va_get (D := G.1) (ci := 4) (v := .int e_at) (C := RX4) (T := TX4) (N := 8) hx hb hts inG_X4 hown hK hP 0 rfl rfl 6 (by decide +kernel) (hts _ fl_X4_42) (fun _ h9 => h9) rfl dX4_passed_23 ?_
    refine va_iald hx hb hK hP 2 0 rfl rfl (i := e_at) (vp_in_iff.mpr ⟨by omega, by omega⟩) dX4_passed_26 ?_
    refine lv_iload_n hx hb dX4_passed_27 rfl (lv_at hl 1 rfl) ?_
    refine lv_icmp_ne (tgt := 35) hx hb dX4_passed_28 (by decide +kernel) (fun c_3 => ?_) (fun c_3 => ?_)
    ·
      have n_3 : gNe ((f_kd e_at.toNatClampNeg).toInt) (41) := g5_ne (a := (f_kd e_at.toNatClampNeg).toInt) (b := 41) rfl (by decide +kernel) c_3
      refine lv_iconst (v := 0) hx hb dX4_passed_35 (by decide +kernel) ?_
      refine lv_istore_n (lv' := [(2, .int 0), (0, .ref a_r), (1, .int 41)]) hx hb dX4_passed_36 rfl hl (by decide +kernel) rfl ?_
      clear hl
      intro ls hl
      refine lv_aload_n hx hb dX4_passed_37 rfl (lv_at hl 1 rfl) ?_
      refine lv_dup hx hb dX4_passed_38 rfl ?_
      refine W.eq (g2 := F0 m 39 ls [.ref a_r, .ref a_r]) rfl ?_
      refine va_get (D := G.1) (ci := 4) (v := .int e_at) (C := RX4) (T := TX4) (N := 8) hx hb hts inG_X4 hown hK hP 0 rfl rfl 6 (by decide +kernel) (hts _ fl_X4_42) (fun _ h9 => h9) rfl dX4_passed_39 ?_
      refine lv_iload_n hx hb dX4_passed_42 rfl (lv_at hl 0 rfl) ?_
      refine lv_if_eq (tgt := 50) hx hb dX4_passed_43 (by decide +kernel) (fun c_4 => ?_) (fun c_4 => ?_)
      ·
        refine lv_iconst (v := 0) hx hb dX4_passed_50 (by decide +kernel) ?_
        refine lv_iadd hx hb dX4_passed_51 ?_
        refine g5_ti (v := e_at) (by simp) ?_
        refine va_put (D := G.1) (ci := 4) (v := .int e_at) (ty := .int) (C := RX4) (T := TX4) (N := 8) hx hb hts inG_X4 tyX4 tyX4_ok nmX4 hown hK hP hD hS 0 rfl rfl 6 (by decide +kernel) (hts _ fl_X4_42) (fun _ h9 => h9) rfl (by decide +kernel) rfl rfl (Nat.le_of_ble_eq_true rfl) dX4_passed_52 ?_
        clear hP hD hS
        intro H locs hP hD hS
        refine g5_rs [(a_r, (oc4 a_tk a_rh a_rs a_rc e_ln e_pa e_at e_fp)), (a_tk, (oc8 a_kd a_nm a_pl)), (a_kd, (arI G 401 f_kd))] hP hD ?_
        clear hP hD
        intro hP hD
        refine lv_iload_n hx hb dX4_passed_55 rfl (lv_at hl 0 rfl) ?_
        refine W.eq (g2 := F0 m 56 ls [.int 0]) rfl ?_
        exact W.zret (v := 0) hx hb hr rfl (fun t ht hW => ⟨⟨0, [(a_r, (oc4 a_tk a_rh a_rs a_rc e_ln e_pa e_at e_fp)), (a_tk, (oc8 a_kd a_nm a_pl)), (a_kd, (arI G 401 f_kd))], rfl, Or.inr (⟨e_at, h_e_at, by omega, by unfold gNe at *; omega, rfl, rfl⟩), by rw [ht]; exact hP.sub [0, 1, 2] rfl, hD.sub [0, 1, 2] (by decide +kernel) rfl⟩, hS.F ht⟩) hS.2.2 dX4_passed_56
      ·
        exact absurd c_4 (by decide +kernel)
    ·
      have i_3 : (f_kd e_at.toNatClampNeg).toInt = 41 := g5_neN (a := (f_kd e_at.toNatClampNeg).toInt) (b := 41) rfl (by decide +kernel) c_3
      refine lv_iconst (v := 1) hx hb dX4_passed_31 (by decide +kernel) ?_
      refine lv_goto (tgt := 36) hx hb dX4_passed_32 (by decide +kernel) ?_
      refine lv_istore_n (lv' := [(2, .int 1), (0, .ref a_r), (1, .int 41)]) hx hb dX4_passed_36 rfl hl (by decide +kernel) rfl ?_
      clear hl
      intro ls hl
      refine lv_aload_n hx hb dX4_passed_37 rfl (lv_at hl 1 rfl) ?_
      refine W.eq (g2 := F0 m 38 ls [.ref a_r]) rfl ?_
      refine lv_dup hx hb dX4_passed_38 rfl ?_
      refine va_get (D := G.1) (ci := 4) (v := .int e_at) (C := RX4) (T := TX4) (N := 8) hx hb hts inG_X4 hown hK hP 0 rfl rfl 6 (by decide +kernel) (hts _ fl_X4_42) (fun _ h9 => h9) rfl dX4_passed_39 ?_
      refine lv_iload_n hx hb dX4_passed_42 rfl (lv_at hl 0 rfl) ?_
      refine lv_if_eq (tgt := 50) hx hb dX4_passed_43 (by decide +kernel) (fun c_5 => ?_) (fun c_5 => ?_)
      ·
        exact absurd c_5 (by decide +kernel)
      ·
        refine lv_iconst (v := 1) hx hb dX4_passed_46 (by decide +kernel) ?_
        refine lv_goto (tgt := 51) hx hb dX4_passed_47 (by decide +kernel) ?_
        refine lv_iadd hx hb dX4_passed_51 ?_
        have t_6 : (e_at + 1).toInt = e_at.toInt + 1 := g5_iadd (a := e_at.toInt) (b := 1) (by rfl) (by decide +kernel) (by omega) (by omega)
        refine va_put (D := G.1) (ci := 4) (v := .int (e_at + 1)) (ty := .int) (C := RX4) (T := TX4) (N := 8) hx hb hts inG_X4 tyX4 tyX4_ok nmX4 hown hK hP hD hS 0 rfl rfl 6 (by decide +kernel) (hts _ fl_X4_42) (fun _ h9 => h9) rfl (by decide +kernel) rfl rfl (Nat.le_of_ble_eq_true rfl) dX4_passed_52 ?_
        clear hP hD hS
        intro H locs hP hD hS
        refine g5_rs [(a_r, (oc4 a_tk a_rh a_rs a_rc e_ln e_pa (e_at + 1) e_fp)), (a_tk, (oc8 a_kd a_nm a_pl)), (a_kd, (arI G 401 f_kd))] hP hD ?_
        clear hP hD
        intro hP hD
        refine W.eq (g2 := F0 m 55 ls []) rfl ?_
        refine lv_iload_n hx hb dX4_passed_55 rfl (lv_at hl 0 rfl) ?_
        exact W.zret (v := 1) hx hb hr rfl (fun t ht hW => ⟨⟨1, [(a_r, (oc4 a_tk a_rh a_rs a_rc e_ln e_pa (e_at + 1) e_fp)), (a_tk, (oc8 a_kd a_nm a_pl)), (a_kd, (arI G 401 f_kd))], rfl, Or.inl (⟨(e_at + 1), ⟨by omega, by omega⟩, by omega, by omega, rfl, rfl⟩), by rw [ht]; exact hP.sub [0, 1, 2] rfl, hD.sub [0, 1, 2] (by decide +kernel) rfl⟩, hS.F ht⟩) hS.2.2 dX4_passed_56
set_option maxHeartbeats 4000000 in
set_option maxRecDepth 100000 in
theorem r_passedX263 (l : Launch) (G : g5_G) (a_r a_tk a_kd a_rh a_rs a_rc a_nm a_pl : Nat) (sz : Nat) (e_ln : Int32) (e_pa : Int32) (e_at : Int32) (e_fp : Int32) (f_kd : Nat → Int32) (h_e_ln : 0 ≤ e_ln.toInt ∧ e_ln.toInt ≤ 400) (h_e_pa : 0 ≤ e_pa.toInt ∧ e_pa.toInt ≤ 50) (h_e_at : 0 ≤ e_at.toInt ∧ e_at.toInt ≤ 401) (e_a4 : e_at.toInt ≤ 400) : Met l yX4_passed (wsG yX4_passed cX4_passed 3 (some .boolean)) ({ frames := 0, cells := 0, slots := 0, locals := 0 }) (va_Pc [.ref a_r, .int 263] (g5_P G [(a_r, (oc4 a_tk a_rh a_rs a_rc e_ln e_pa e_at e_fp)), (a_tk, (oc8 a_kd a_nm a_pl)), (a_kd, (arI G 401 f_kd))] sz)) (va_Qi (fun (r : Int32) (u : va_W) => (∃ (o_at : Int32), (0 ≤ o_at.toInt ∧ o_at.toInt ≤ 401) ∧ (o_at.toInt = e_at.toInt + 1) ∧ ((f_kd e_at.toNatClampNeg).toInt = 263) ∧ (r = 1) ∧ (u = [(a_r, (oc4 a_tk a_rh a_rs a_rc e_ln e_pa o_at e_fp)), (a_tk, (oc8 a_kd a_nm a_pl)), (a_kd, (arI G 401 f_kd))])) ∨ (∃ (o_at : Int32), (0 ≤ o_at.toInt ∧ o_at.toInt ≤ 401) ∧ (o_at.toInt = e_at.toInt) ∧ (gNe (f_kd e_at.toNatClampNeg).toInt 263) ∧ (r = 0) ∧ (u = [(a_r, (oc4 a_tk a_rh a_rs a_rc e_ln e_pa o_at e_fp)), (a_tk, (oc8 a_kd a_nm a_pl)), (a_kd, (arI G 401 f_kd))]))) (g5_B G (va_A [(a_r, (oc4 a_tk a_rh a_rs a_rc e_ln e_pa e_at e_fp)), (a_tk, (oc8 a_kd a_nm a_pl)), (a_kd, (arI G 401 f_kd))] sz)) (va_A [(a_r, (oc4 a_tk a_rh a_rs a_rc e_ln e_pa e_at e_fp)), (a_tk, (oc8 a_kd a_nm a_pl)), (a_kd, (arI G 401 f_kd))] sz)) 0 0 (va_A [(a_r, (oc4 a_tk a_rh a_rs a_rc e_ln e_pa e_at e_fp)), (a_tk, (oc8 a_kd a_nm a_pl)), (a_kd, (arI G 401 f_kd))] sz) := by
  refine Met.ofW (cc := cX4_passed) (maxL := 3) (ret := (some .boolean)) (by decide +kernel) rfl ?_
  intro p e s m args below meth c s₁ B hml hv
  obtain ⟨rfl, hsz, hP, hK, hD0, hN, hT⟩ := hv
  have hx := B.exec
  have hb := B.bytes
  have hr := B.returns
  have hts : ∀ w ∈ tblG, w.before _ s = true := fun w h => atoms_spec (ws := (wsG yX4_passed cX4_passed 3 (some .boolean))) B.pre w (List.mem_cons_of_mem _ h)
  have hown : s.vm.findClass RX4 = some m.cls := findClass_of_methodNamed B.named
  have hlocks := B.notSynchronized
  subst hsz
  have hD := hD0.self (sz := s.heap.size)
  generalize hAe : va_A [(a_r, (oc4 a_tk a_rh a_rs a_rc e_ln e_pa e_at e_fp)), (a_tk, (oc8 a_kd a_nm a_pl)), (a_kd, (arI G 401 f_kd))] s.heap.size = A at hD hT ⊢
  have hA : ∀ q : Nat, s.heap.size ≤ q → A q := fun q h => by rw [← hAe]; exact Or.inr h
  have hS : va_S A s.heap s.heap [] := va_S.rf
  replace hP : va_P G.1 vwCl [(a_r, (oc4 a_tk a_rh a_rs a_rc e_ln e_pa e_at e_fp)), (a_tk, (oc8 a_kd a_nm a_pl)), (a_kd, (arI G 401 f_kd))] s.heap := hP
  have hl := lv_entry ([.ref a_r, .int 263]) (n := 3) (Nat.le_of_ble_eq_true rfl)
  rw [lg_entry_eq]
  generalize (lg_sl ([.ref a_r, .int 263]) ++ List.replicate (3 - (lg_sl ([.ref a_r, .int 263])).length) Slot.unset).toArray = ls at hl ⊢
  replace hl : lv_has ls 3 [(0, .ref a_r), (1, .int 263)] := hl
  refine lv_aload_n hx hb dX4_passed_0 rfl (lv_at hl 0 rfl) ?_
  refine va_get (D := G.1) (ci := 4) (v := .int e_at) (C := RX4) (T := TX4) (N := 8) hx hb hts inG_X4 hown hK hP 0 rfl rfl 6 (by decide +kernel) (hts _ fl_X4_42) (fun _ h9 => h9) rfl dX4_passed_1 ?_
  refine lv_aload_n hx hb dX4_passed_4 rfl (lv_at hl 0 rfl) ?_
  refine va_get (D := G.1) (ci := 4) (v := .ref a_tk) (C := RX4) (T := TX4) (N := 8) hx hb hts inG_X4 hown hK hP 0 rfl rfl 0 (by decide +kernel) (hts _ fl_X4_12) (fun _ h9 => h9) rfl dX4_passed_5 ?_
  refine W.eq (g2 := F0 m 8 ls [.ref a_tk, .int e_at]) rfl ?_
  refine va_get (D := G.1) (ci := 8) (v := .ref a_kd) (C := RX8) (T := TX8) (N := 3) hx hb hts inG_X8 hown hK hP 1 rfl rfl 0 (by decide +kernel) (hts _ fl_X4_96) (fun _ h9 => h9) rfl dX4_passed_8 ?_
  refine va_alen hx hb hK hP 2 0 rfl rfl (v := 401) (by show Int32.ofNat 401 = 401; decide) dX4_passed_11 ?_
  refine lv_icmp_ge (tgt := 35) hx hb dX4_passed_12 (by decide +kernel) (fun c_1 => ?_) (fun c_1 => ?_)
  ·
    have i_1 : e_at.toInt ≥ 401 := g5_ge (a := e_at.toInt) (b := 401) rfl (by decide +kernel) c_1
    refine lv_iconst (v := 0) hx hb dX4_passed_35 (by decide +kernel) ?_
    refine lv_istore_n (lv' := [(2, .int 0), (0, .ref a_r), (1, .int 263)]) hx hb dX4_passed_36 rfl hl (by decide +kernel) rfl ?_
    clear hl
    intro ls hl
    refine lv_aload_n hx hb dX4_passed_37 rfl (lv_at hl 1 rfl) ?_
    refine lv_dup hx hb dX4_passed_38 rfl ?_
    refine W.eq (g2 := F0 m 39 ls [.ref a_r, .ref a_r]) rfl ?_
    refine va_get (D := G.1) (ci := 4) (v := .int e_at) (C := RX4) (T := TX4) (N := 8) hx hb hts inG_X4 hown hK hP 0 rfl rfl 6 (by decide +kernel) (hts _ fl_X4_42) (fun _ h9 => h9) rfl dX4_passed_39 ?_
    refine lv_iload_n hx hb dX4_passed_42 rfl (lv_at hl 0 rfl) ?_
    refine lv_if_eq (tgt := 50) hx hb dX4_passed_43 (by decide +kernel) (fun c_2 => ?_) (fun c_2 => ?_)
    ·
      refine lv_iconst (v := 0) hx hb dX4_passed_50 (by decide +kernel) ?_
      refine lv_iadd hx hb dX4_passed_51 ?_
      refine g5_ti (v := e_at) (by simp) ?_
      refine va_put (D := G.1) (ci := 4) (v := .int e_at) (ty := .int) (C := RX4) (T := TX4) (N := 8) hx hb hts inG_X4 tyX4 tyX4_ok nmX4 hown hK hP hD hS 0 rfl rfl 6 (by decide +kernel) (hts _ fl_X4_42) (fun _ h9 => h9) rfl (by decide +kernel) rfl rfl (Nat.le_of_ble_eq_true rfl) dX4_passed_52 ?_
      clear hP hD hS
      intro H locs hP hD hS
      refine g5_rs [(a_r, (oc4 a_tk a_rh a_rs a_rc e_ln e_pa e_at e_fp)), (a_tk, (oc8 a_kd a_nm a_pl)), (a_kd, (arI G 401 f_kd))] hP hD ?_
      clear hP hD
      intro hP hD
      refine lv_iload_n hx hb dX4_passed_55 rfl (lv_at hl 0 rfl) ?_
      refine W.eq (g2 := F0 m 56 ls [.int 0]) rfl ?_
      exact W.zret (v := 0) hx hb hr rfl (fun t ht hW => ⟨⟨0, [(a_r, (oc4 a_tk a_rh a_rs a_rc e_ln e_pa e_at e_fp)), (a_tk, (oc8 a_kd a_nm a_pl)), (a_kd, (arI G 401 f_kd))], rfl, Or.inr (⟨e_at, h_e_at, by omega, by unfold gNe at *; omega, rfl, rfl⟩), by rw [ht]; exact hP.sub [0, 1, 2] rfl, hD.sub [0, 1, 2] (by decide +kernel) rfl⟩, hS.F ht⟩) hS.2.2 dX4_passed_56
    ·
      exact absurd c_2 (by decide +kernel)
  ·
    have i_1 : e_at.toInt < 401 := g5_geN (a := e_at.toInt) (b := 401) rfl (by decide +kernel) c_1
    refine lv_aload_n hx hb dX4_passed_15 rfl (lv_at hl 0 rfl) ?_
    refine va_get (D := G.1) (ci := 4) (v := .ref a_tk) (C := RX4) (T := TX4) (N := 8) hx hb hts inG_X4 hown hK hP 0 rfl rfl 0 (by decide +kernel) (hts _ fl_X4_12) (fun _ h9 => h9) rfl dX4_passed_16 ?_
    refine va_get (D := G.1) (ci := 8) (v := .ref a_kd) (C := RX8) (T := TX8) (N := 3) hx hb hts inG_X8 hown hK hP 1 rfl rfl 0 (by decide +kernel) (hts _ fl_X4_96) (fun _ h9 => h9) rfl dX4_passed_19 ?_
    refine lv_aload_n hx hb dX4_passed_22 rfl (lv_at hl 0 rfl) ?_
    refine W.eq (g2 := F0 m 23 ls [.ref a_r, .ref a_kd]) rfl ?_
    refine va_get (D := G.1) (ci := 4) (v := .int e_at) (C := RX4) (T := TX4) (N := 8) hx hb hts inG_X4 hown hK hP 0 rfl rfl 6 (by decide +kernel) (hts _ fl_X4_42) (fun _ h9 => h9) rfl dX4_passed_23 ?_
    refine va_iald hx hb hK hP 2 0 rfl rfl (i := e_at) (vp_in_iff.mpr ⟨by omega, by omega⟩) dX4_passed_26 ?_
    refine lv_iload_n hx hb dX4_passed_27 rfl (lv_at hl 1 rfl) ?_
    refine lv_icmp_ne (tgt := 35) hx hb dX4_passed_28 (by decide +kernel) (fun c_3 => ?_) (fun c_3 => ?_)
    ·
      have n_3 : gNe ((f_kd e_at.toNatClampNeg).toInt) (263) := g5_ne (a := (f_kd e_at.toNatClampNeg).toInt) (b := 263) rfl (by decide +kernel) c_3
      refine lv_iconst (v := 0) hx hb dX4_passed_35 (by decide +kernel) ?_
      refine lv_istore_n (lv' := [(2, .int 0), (0, .ref a_r), (1, .int 263)]) hx hb dX4_passed_36 rfl hl (by decide +kernel) rfl ?_
      clear hl
      intro ls hl
      refine lv_aload_n hx hb dX4_passed_37 rfl (lv_at hl 1 rfl) ?_
      refine lv_dup hx hb dX4_passed_38 rfl ?_
      refine W.eq (g2 := F0 m 39 ls [.ref a_r, .ref a_r]) rfl ?_
      refine va_get (D := G.1) (ci := 4) (v := .int e_at) (C := RX4) (T := TX4) (N := 8) hx hb hts inG_X4 hown hK hP 0 rfl rfl 6 (by decide +kernel) (hts _ fl_X4_42) (fun _ h9 => h9) rfl dX4_passed_39 ?_
      refine lv_iload_n hx hb dX4_passed_42 rfl (lv_at hl 0 rfl) ?_
      refine lv_if_eq (tgt := 50) hx hb dX4_passed_43 (by decide +kernel) (fun c_4 => ?_) (fun c_4 => ?_)
      ·
        refine lv_iconst (v := 0) hx hb dX4_passed_50 (by decide +kernel) ?_
        refine lv_iadd hx hb dX4_passed_51 ?_
        refine g5_ti (v := e_at) (by simp) ?_
        refine va_put (D := G.1) (ci := 4) (v := .int e_at) (ty := .int) (C := RX4) (T := TX4) (N := 8) hx hb hts inG_X4 tyX4 tyX4_ok nmX4 hown hK hP hD hS 0 rfl rfl 6 (by decide +kernel) (hts _ fl_X4_42) (fun _ h9 => h9) rfl (by decide +kernel) rfl rfl (Nat.le_of_ble_eq_true rfl) dX4_passed_52 ?_
        clear hP hD hS
        intro H locs hP hD hS
        refine g5_rs [(a_r, (oc4 a_tk a_rh a_rs a_rc e_ln e_pa e_at e_fp)), (a_tk, (oc8 a_kd a_nm a_pl)), (a_kd, (arI G 401 f_kd))] hP hD ?_
        clear hP hD
        intro hP hD
        refine lv_iload_n hx hb dX4_passed_55 rfl (lv_at hl 0 rfl) ?_
        refine W.eq (g2 := F0 m 56 ls [.int 0]) rfl ?_
        exact W.zret (v := 0) hx hb hr rfl (fun t ht hW => ⟨⟨0, [(a_r, (oc4 a_tk a_rh a_rs a_rc e_ln e_pa e_at e_fp)), (a_tk, (oc8 a_kd a_nm a_pl)), (a_kd, (arI G 401 f_kd))], rfl, Or.inr (⟨e_at, h_e_at, by omega, by unfold gNe at *; omega, rfl, rfl⟩), by rw [ht]; exact hP.sub [0, 1, 2] rfl, hD.sub [0, 1, 2] (by decide +kernel) rfl⟩, hS.F ht⟩) hS.2.2 dX4_passed_56
      ·
        exact absurd c_4 (by decide +kernel)
    ·
      have i_3 : (f_kd e_at.toNatClampNeg).toInt = 263 := g5_neN (a := (f_kd e_at.toNatClampNeg).toInt) (b := 263) rfl (by decide +kernel) c_3
      refine lv_iconst (v := 1) hx hb dX4_passed_31 (by decide +kernel) ?_
      refine lv_goto (tgt := 36) hx hb dX4_passed_32 (by decide +kernel) ?_
      refine lv_istore_n (lv' := [(2, .int 1), (0, .ref a_r), (1, .int 263)]) hx hb dX4_passed_36 rfl hl (by decide +kernel) rfl ?_
      clear hl
      intro ls hl
      refine lv_aload_n hx hb dX4_passed_37 rfl (lv_at hl 1 rfl) ?_
      refine W.eq (g2 := F0 m 38 ls [.ref a_r]) rfl ?_
      refine lv_dup hx hb dX4_passed_38 rfl ?_
      refine va_get (D := G.1) (ci := 4) (v := .int e_at) (C := RX4) (T := TX4) (N := 8) hx hb hts inG_X4 hown hK hP 0 rfl rfl 6 (by decide +kernel) (hts _ fl_X4_42) (fun _ h9 => h9) rfl dX4_passed_39 ?_
      refine lv_iload_n hx hb dX4_passed_42 rfl (lv_at hl 0 rfl) ?_
      refine lv_if_eq (tgt := 50) hx hb dX4_passed_43 (by decide +kernel) (fun c_5 => ?_) (fun c_5 => ?_)
      ·
        exact absurd c_5 (by decide +kernel)
      ·
        refine lv_iconst (v := 1) hx hb dX4_passed_46 (by decide +kernel) ?_
        refine lv_goto (tgt := 51) hx hb dX4_passed_47 (by decide +kernel) ?_
        refine lv_iadd hx hb dX4_passed_51 ?_
        have t_6 : (e_at + 1).toInt = e_at.toInt + 1 := g5_iadd (a := e_at.toInt) (b := 1) (by rfl) (by decide +kernel) (by omega) (by omega)
        refine va_put (D := G.1) (ci := 4) (v := .int (e_at + 1)) (ty := .int) (C := RX4) (T := TX4) (N := 8) hx hb hts inG_X4 tyX4 tyX4_ok nmX4 hown hK hP hD hS 0 rfl rfl 6 (by decide +kernel) (hts _ fl_X4_42) (fun _ h9 => h9) rfl (by decide +kernel) rfl rfl (Nat.le_of_ble_eq_true rfl) dX4_passed_52 ?_
        clear hP hD hS
        intro H locs hP hD hS
        refine g5_rs [(a_r, (oc4 a_tk a_rh a_rs a_rc e_ln e_pa (e_at + 1) e_fp)), (a_tk, (oc8 a_kd a_nm a_pl)), (a_kd, (arI G 401 f_kd))] hP hD ?_
        clear hP hD
        intro hP hD
        refine W.eq (g2 := F0 m 55 ls []) rfl ?_
        refine lv_iload_n hx hb dX4_passed_55 rfl (lv_at hl 0 rfl) ?_
        exact W.zret (v := 1) hx hb hr rfl (fun t ht hW => ⟨⟨1, [(a_r, (oc4 a_tk a_rh a_rs a_rc e_ln e_pa (e_at + 1) e_fp)), (a_tk, (oc8 a_kd a_nm a_pl)), (a_kd, (arI G 401 f_kd))], rfl, Or.inl (⟨(e_at + 1), ⟨by omega, by omega⟩, by omega, by omega, rfl, rfl⟩), by rw [ht]; exact hP.sub [0, 1, 2] rfl, hD.sub [0, 1, 2] (by decide +kernel) rfl⟩, hS.F ht⟩) hS.2.2 dX4_passed_56
set_option maxHeartbeats 4000000 in
set_option maxRecDepth 100000 in
theorem r_passedX260 (l : Launch) (G : g5_G) (a_r a_tk a_kd a_rh a_rs a_rc a_nm a_pl : Nat) (sz : Nat) (e_ln : Int32) (e_pa : Int32) (e_at : Int32) (e_fp : Int32) (f_kd : Nat → Int32) (h_e_ln : 0 ≤ e_ln.toInt ∧ e_ln.toInt ≤ 400) (h_e_pa : 0 ≤ e_pa.toInt ∧ e_pa.toInt ≤ 50) (h_e_at : 0 ≤ e_at.toInt ∧ e_at.toInt ≤ 401) (e_a4 : e_at.toInt ≤ 400) : Met l yX4_passed (wsG yX4_passed cX4_passed 3 (some .boolean)) ({ frames := 0, cells := 0, slots := 0, locals := 0 }) (va_Pc [.ref a_r, .int 260] (g5_P G [(a_r, (oc4 a_tk a_rh a_rs a_rc e_ln e_pa e_at e_fp)), (a_tk, (oc8 a_kd a_nm a_pl)), (a_kd, (arI G 401 f_kd))] sz)) (va_Qi (fun (r : Int32) (u : va_W) => (∃ (o_at : Int32), (0 ≤ o_at.toInt ∧ o_at.toInt ≤ 401) ∧ (o_at.toInt = e_at.toInt + 1) ∧ ((f_kd e_at.toNatClampNeg).toInt = 260) ∧ (r = 1) ∧ (u = [(a_r, (oc4 a_tk a_rh a_rs a_rc e_ln e_pa o_at e_fp)), (a_tk, (oc8 a_kd a_nm a_pl)), (a_kd, (arI G 401 f_kd))])) ∨ (∃ (o_at : Int32), (0 ≤ o_at.toInt ∧ o_at.toInt ≤ 401) ∧ (o_at.toInt = e_at.toInt) ∧ (gNe (f_kd e_at.toNatClampNeg).toInt 260) ∧ (r = 0) ∧ (u = [(a_r, (oc4 a_tk a_rh a_rs a_rc e_ln e_pa o_at e_fp)), (a_tk, (oc8 a_kd a_nm a_pl)), (a_kd, (arI G 401 f_kd))]))) (g5_B G (va_A [(a_r, (oc4 a_tk a_rh a_rs a_rc e_ln e_pa e_at e_fp)), (a_tk, (oc8 a_kd a_nm a_pl)), (a_kd, (arI G 401 f_kd))] sz)) (va_A [(a_r, (oc4 a_tk a_rh a_rs a_rc e_ln e_pa e_at e_fp)), (a_tk, (oc8 a_kd a_nm a_pl)), (a_kd, (arI G 401 f_kd))] sz)) 0 0 (va_A [(a_r, (oc4 a_tk a_rh a_rs a_rc e_ln e_pa e_at e_fp)), (a_tk, (oc8 a_kd a_nm a_pl)), (a_kd, (arI G 401 f_kd))] sz) := by
  refine Met.ofW (cc := cX4_passed) (maxL := 3) (ret := (some .boolean)) (by decide +kernel) rfl ?_
  intro p e s m args below meth c s₁ B hml hv
  obtain ⟨rfl, hsz, hP, hK, hD0, hN, hT⟩ := hv
  have hx := B.exec
  have hb := B.bytes
  have hr := B.returns
  have hts : ∀ w ∈ tblG, w.before _ s = true := fun w h => atoms_spec (ws := (wsG yX4_passed cX4_passed 3 (some .boolean))) B.pre w (List.mem_cons_of_mem _ h)
  have hown : s.vm.findClass RX4 = some m.cls := findClass_of_methodNamed B.named
  have hlocks := B.notSynchronized
  subst hsz
  have hD := hD0.self (sz := s.heap.size)
  generalize hAe : va_A [(a_r, (oc4 a_tk a_rh a_rs a_rc e_ln e_pa e_at e_fp)), (a_tk, (oc8 a_kd a_nm a_pl)), (a_kd, (arI G 401 f_kd))] s.heap.size = A at hD hT ⊢
  have hA : ∀ q : Nat, s.heap.size ≤ q → A q := fun q h => by rw [← hAe]; exact Or.inr h
  have hS : va_S A s.heap s.heap [] := va_S.rf
  replace hP : va_P G.1 vwCl [(a_r, (oc4 a_tk a_rh a_rs a_rc e_ln e_pa e_at e_fp)), (a_tk, (oc8 a_kd a_nm a_pl)), (a_kd, (arI G 401 f_kd))] s.heap := hP
  have hl := lv_entry ([.ref a_r, .int 260]) (n := 3) (Nat.le_of_ble_eq_true rfl)
  rw [lg_entry_eq]
  generalize (lg_sl ([.ref a_r, .int 260]) ++ List.replicate (3 - (lg_sl ([.ref a_r, .int 260])).length) Slot.unset).toArray = ls at hl ⊢
  replace hl : lv_has ls 3 [(0, .ref a_r), (1, .int 260)] := hl
  refine lv_aload_n hx hb dX4_passed_0 rfl (lv_at hl 0 rfl) ?_
  refine va_get (D := G.1) (ci := 4) (v := .int e_at) (C := RX4) (T := TX4) (N := 8) hx hb hts inG_X4 hown hK hP 0 rfl rfl 6 (by decide +kernel) (hts _ fl_X4_42) (fun _ h9 => h9) rfl dX4_passed_1 ?_
  refine lv_aload_n hx hb dX4_passed_4 rfl (lv_at hl 0 rfl) ?_
  refine va_get (D := G.1) (ci := 4) (v := .ref a_tk) (C := RX4) (T := TX4) (N := 8) hx hb hts inG_X4 hown hK hP 0 rfl rfl 0 (by decide +kernel) (hts _ fl_X4_12) (fun _ h9 => h9) rfl dX4_passed_5 ?_
  refine W.eq (g2 := F0 m 8 ls [.ref a_tk, .int e_at]) rfl ?_
  refine va_get (D := G.1) (ci := 8) (v := .ref a_kd) (C := RX8) (T := TX8) (N := 3) hx hb hts inG_X8 hown hK hP 1 rfl rfl 0 (by decide +kernel) (hts _ fl_X4_96) (fun _ h9 => h9) rfl dX4_passed_8 ?_
  refine va_alen hx hb hK hP 2 0 rfl rfl (v := 401) (by show Int32.ofNat 401 = 401; decide) dX4_passed_11 ?_
  refine lv_icmp_ge (tgt := 35) hx hb dX4_passed_12 (by decide +kernel) (fun c_1 => ?_) (fun c_1 => ?_)
  ·
    have i_1 : e_at.toInt ≥ 401 := g5_ge (a := e_at.toInt) (b := 401) rfl (by decide +kernel) c_1
    refine lv_iconst (v := 0) hx hb dX4_passed_35 (by decide +kernel) ?_
    refine lv_istore_n (lv' := [(2, .int 0), (0, .ref a_r), (1, .int 260)]) hx hb dX4_passed_36 rfl hl (by decide +kernel) rfl ?_
    clear hl
    intro ls hl
    refine lv_aload_n hx hb dX4_passed_37 rfl (lv_at hl 1 rfl) ?_
    refine lv_dup hx hb dX4_passed_38 rfl ?_
    refine W.eq (g2 := F0 m 39 ls [.ref a_r, .ref a_r]) rfl ?_
    refine va_get (D := G.1) (ci := 4) (v := .int e_at) (C := RX4) (T := TX4) (N := 8) hx hb hts inG_X4 hown hK hP 0 rfl rfl 6 (by decide +kernel) (hts _ fl_X4_42) (fun _ h9 => h9) rfl dX4_passed_39 ?_
    refine lv_iload_n hx hb dX4_passed_42 rfl (lv_at hl 0 rfl) ?_
    refine lv_if_eq (tgt := 50) hx hb dX4_passed_43 (by decide +kernel) (fun c_2 => ?_) (fun c_2 => ?_)
    ·
      refine lv_iconst (v := 0) hx hb dX4_passed_50 (by decide +kernel) ?_
      refine lv_iadd hx hb dX4_passed_51 ?_
      refine g5_ti (v := e_at) (by simp) ?_
      refine va_put (D := G.1) (ci := 4) (v := .int e_at) (ty := .int) (C := RX4) (T := TX4) (N := 8) hx hb hts inG_X4 tyX4 tyX4_ok nmX4 hown hK hP hD hS 0 rfl rfl 6 (by decide +kernel) (hts _ fl_X4_42) (fun _ h9 => h9) rfl (by decide +kernel) rfl rfl (Nat.le_of_ble_eq_true rfl) dX4_passed_52 ?_
      clear hP hD hS
      intro H locs hP hD hS
      refine g5_rs [(a_r, (oc4 a_tk a_rh a_rs a_rc e_ln e_pa e_at e_fp)), (a_tk, (oc8 a_kd a_nm a_pl)), (a_kd, (arI G 401 f_kd))] hP hD ?_
      clear hP hD
      intro hP hD
      refine lv_iload_n hx hb dX4_passed_55 rfl (lv_at hl 0 rfl) ?_
      refine W.eq (g2 := F0 m 56 ls [.int 0]) rfl ?_
      exact W.zret (v := 0) hx hb hr rfl (fun t ht hW => ⟨⟨0, [(a_r, (oc4 a_tk a_rh a_rs a_rc e_ln e_pa e_at e_fp)), (a_tk, (oc8 a_kd a_nm a_pl)), (a_kd, (arI G 401 f_kd))], rfl, Or.inr (⟨e_at, h_e_at, by omega, by unfold gNe at *; omega, rfl, rfl⟩), by rw [ht]; exact hP.sub [0, 1, 2] rfl, hD.sub [0, 1, 2] (by decide +kernel) rfl⟩, hS.F ht⟩) hS.2.2 dX4_passed_56
    ·
      exact absurd c_2 (by decide +kernel)
  ·
    have i_1 : e_at.toInt < 401 := g5_geN (a := e_at.toInt) (b := 401) rfl (by decide +kernel) c_1
    refine lv_aload_n hx hb dX4_passed_15 rfl (lv_at hl 0 rfl) ?_
    refine va_get (D := G.1) (ci := 4) (v := .ref a_tk) (C := RX4) (T := TX4) (N := 8) hx hb hts inG_X4 hown hK hP 0 rfl rfl 0 (by decide +kernel) (hts _ fl_X4_12) (fun _ h9 => h9) rfl dX4_passed_16 ?_
    refine va_get (D := G.1) (ci := 8) (v := .ref a_kd) (C := RX8) (T := TX8) (N := 3) hx hb hts inG_X8 hown hK hP 1 rfl rfl 0 (by decide +kernel) (hts _ fl_X4_96) (fun _ h9 => h9) rfl dX4_passed_19 ?_
    refine lv_aload_n hx hb dX4_passed_22 rfl (lv_at hl 0 rfl) ?_
    refine W.eq (g2 := F0 m 23 ls [.ref a_r, .ref a_kd]) rfl ?_
    refine va_get (D := G.1) (ci := 4) (v := .int e_at) (C := RX4) (T := TX4) (N := 8) hx hb hts inG_X4 hown hK hP 0 rfl rfl 6 (by decide +kernel) (hts _ fl_X4_42) (fun _ h9 => h9) rfl dX4_passed_23 ?_
    refine va_iald hx hb hK hP 2 0 rfl rfl (i := e_at) (vp_in_iff.mpr ⟨by omega, by omega⟩) dX4_passed_26 ?_
    refine lv_iload_n hx hb dX4_passed_27 rfl (lv_at hl 1 rfl) ?_
    refine lv_icmp_ne (tgt := 35) hx hb dX4_passed_28 (by decide +kernel) (fun c_3 => ?_) (fun c_3 => ?_)
    ·
      have n_3 : gNe ((f_kd e_at.toNatClampNeg).toInt) (260) := g5_ne (a := (f_kd e_at.toNatClampNeg).toInt) (b := 260) rfl (by decide +kernel) c_3
      refine lv_iconst (v := 0) hx hb dX4_passed_35 (by decide +kernel) ?_
      refine lv_istore_n (lv' := [(2, .int 0), (0, .ref a_r), (1, .int 260)]) hx hb dX4_passed_36 rfl hl (by decide +kernel) rfl ?_
      clear hl
      intro ls hl
      refine lv_aload_n hx hb dX4_passed_37 rfl (lv_at hl 1 rfl) ?_
      refine lv_dup hx hb dX4_passed_38 rfl ?_
      refine W.eq (g2 := F0 m 39 ls [.ref a_r, .ref a_r]) rfl ?_
      refine va_get (D := G.1) (ci := 4) (v := .int e_at) (C := RX4) (T := TX4) (N := 8) hx hb hts inG_X4 hown hK hP 0 rfl rfl 6 (by decide +kernel) (hts _ fl_X4_42) (fun _ h9 => h9) rfl dX4_passed_39 ?_
      refine lv_iload_n hx hb dX4_passed_42 rfl (lv_at hl 0 rfl) ?_
      refine lv_if_eq (tgt := 50) hx hb dX4_passed_43 (by decide +kernel) (fun c_4 => ?_) (fun c_4 => ?_)
      ·
        refine lv_iconst (v := 0) hx hb dX4_passed_50 (by decide +kernel) ?_
        refine lv_iadd hx hb dX4_passed_51 ?_
        refine g5_ti (v := e_at) (by simp) ?_
        refine va_put (D := G.1) (ci := 4) (v := .int e_at) (ty := .int) (C := RX4) (T := TX4) (N := 8) hx hb hts inG_X4 tyX4 tyX4_ok nmX4 hown hK hP hD hS 0 rfl rfl 6 (by decide +kernel) (hts _ fl_X4_42) (fun _ h9 => h9) rfl (by decide +kernel) rfl rfl (Nat.le_of_ble_eq_true rfl) dX4_passed_52 ?_
        clear hP hD hS
        intro H locs hP hD hS
        refine g5_rs [(a_r, (oc4 a_tk a_rh a_rs a_rc e_ln e_pa e_at e_fp)), (a_tk, (oc8 a_kd a_nm a_pl)), (a_kd, (arI G 401 f_kd))] hP hD ?_
        clear hP hD
        intro hP hD
        refine lv_iload_n hx hb dX4_passed_55 rfl (lv_at hl 0 rfl) ?_
        refine W.eq (g2 := F0 m 56 ls [.int 0]) rfl ?_
        exact W.zret (v := 0) hx hb hr rfl (fun t ht hW => ⟨⟨0, [(a_r, (oc4 a_tk a_rh a_rs a_rc e_ln e_pa e_at e_fp)), (a_tk, (oc8 a_kd a_nm a_pl)), (a_kd, (arI G 401 f_kd))], rfl, Or.inr (⟨e_at, h_e_at, by omega, by unfold gNe at *; omega, rfl, rfl⟩), by rw [ht]; exact hP.sub [0, 1, 2] rfl, hD.sub [0, 1, 2] (by decide +kernel) rfl⟩, hS.F ht⟩) hS.2.2 dX4_passed_56
      ·
        exact absurd c_4 (by decide +kernel)
    ·
      have i_3 : (f_kd e_at.toNatClampNeg).toInt = 260 := g5_neN (a := (f_kd e_at.toNatClampNeg).toInt) (b := 260) rfl (by decide +kernel) c_3
      refine lv_iconst (v := 1) hx hb dX4_passed_31 (by decide +kernel) ?_
      refine lv_goto (tgt := 36) hx hb dX4_passed_32 (by decide +kernel) ?_
      refine lv_istore_n (lv' := [(2, .int 1), (0, .ref a_r), (1, .int 260)]) hx hb dX4_passed_36 rfl hl (by decide +kernel) rfl ?_
      clear hl
      intro ls hl
      refine lv_aload_n hx hb dX4_passed_37 rfl (lv_at hl 1 rfl) ?_
      refine W.eq (g2 := F0 m 38 ls [.ref a_r]) rfl ?_
      refine lv_dup hx hb dX4_passed_38 rfl ?_
      refine va_get (D := G.1) (ci := 4) (v := .int e_at) (C := RX4) (T := TX4) (N := 8) hx hb hts inG_X4 hown hK hP 0 rfl rfl 6 (by decide +kernel) (hts _ fl_X4_42) (fun _ h9 => h9) rfl dX4_passed_39 ?_
      refine lv_iload_n hx hb dX4_passed_42 rfl (lv_at hl 0 rfl) ?_
      refine lv_if_eq (tgt := 50) hx hb dX4_passed_43 (by decide +kernel) (fun c_5 => ?_) (fun c_5 => ?_)
      ·
        exact absurd c_5 (by decide +kernel)
      ·
        refine lv_iconst (v := 1) hx hb dX4_passed_46 (by decide +kernel) ?_
        refine lv_goto (tgt := 51) hx hb dX4_passed_47 (by decide +kernel) ?_
        refine lv_iadd hx hb dX4_passed_51 ?_
        have t_6 : (e_at + 1).toInt = e_at.toInt + 1 := g5_iadd (a := e_at.toInt) (b := 1) (by rfl) (by decide +kernel) (by omega) (by omega)
        refine va_put (D := G.1) (ci := 4) (v := .int (e_at + 1)) (ty := .int) (C := RX4) (T := TX4) (N := 8) hx hb hts inG_X4 tyX4 tyX4_ok nmX4 hown hK hP hD hS 0 rfl rfl 6 (by decide +kernel) (hts _ fl_X4_42) (fun _ h9 => h9) rfl (by decide +kernel) rfl rfl (Nat.le_of_ble_eq_true rfl) dX4_passed_52 ?_
        clear hP hD hS
        intro H locs hP hD hS
        refine g5_rs [(a_r, (oc4 a_tk a_rh a_rs a_rc e_ln e_pa (e_at + 1) e_fp)), (a_tk, (oc8 a_kd a_nm a_pl)), (a_kd, (arI G 401 f_kd))] hP hD ?_
        clear hP hD
        intro hP hD
        refine W.eq (g2 := F0 m 55 ls []) rfl ?_
        refine lv_iload_n hx hb dX4_passed_55 rfl (lv_at hl 0 rfl) ?_
        exact W.zret (v := 1) hx hb hr rfl (fun t ht hW => ⟨⟨1, [(a_r, (oc4 a_tk a_rh a_rs a_rc e_ln e_pa (e_at + 1) e_fp)), (a_tk, (oc8 a_kd a_nm a_pl)), (a_kd, (arI G 401 f_kd))], rfl, Or.inl (⟨(e_at + 1), ⟨by omega, by omega⟩, by omega, by omega, rfl, rfl⟩), by rw [ht]; exact hP.sub [0, 1, 2] rfl, hD.sub [0, 1, 2] (by decide +kernel) rfl⟩, hS.F ht⟩) hS.2.2 dX4_passed_56
set_option maxHeartbeats 4000000 in
set_option maxRecDepth 100000 in
theorem r_passedX59 (l : Launch) (G : g5_G) (a_r a_tk a_kd a_rh a_rs a_rc a_nm a_pl : Nat) (sz : Nat) (e_ln : Int32) (e_pa : Int32) (e_at : Int32) (e_fp : Int32) (f_kd : Nat → Int32) (h_e_ln : 0 ≤ e_ln.toInt ∧ e_ln.toInt ≤ 400) (h_e_pa : 0 ≤ e_pa.toInt ∧ e_pa.toInt ≤ 50) (h_e_at : 0 ≤ e_at.toInt ∧ e_at.toInt ≤ 401) (e_a4 : e_at.toInt ≤ 400) : Met l yX4_passed (wsG yX4_passed cX4_passed 3 (some .boolean)) ({ frames := 0, cells := 0, slots := 0, locals := 0 }) (va_Pc [.ref a_r, .int 59] (g5_P G [(a_r, (oc4 a_tk a_rh a_rs a_rc e_ln e_pa e_at e_fp)), (a_tk, (oc8 a_kd a_nm a_pl)), (a_kd, (arI G 401 f_kd))] sz)) (va_Qi (fun (r : Int32) (u : va_W) => (∃ (o_at : Int32), (0 ≤ o_at.toInt ∧ o_at.toInt ≤ 401) ∧ (o_at.toInt = e_at.toInt + 1) ∧ ((f_kd e_at.toNatClampNeg).toInt = 59) ∧ (r = 1) ∧ (u = [(a_r, (oc4 a_tk a_rh a_rs a_rc e_ln e_pa o_at e_fp)), (a_tk, (oc8 a_kd a_nm a_pl)), (a_kd, (arI G 401 f_kd))])) ∨ (∃ (o_at : Int32), (0 ≤ o_at.toInt ∧ o_at.toInt ≤ 401) ∧ (o_at.toInt = e_at.toInt) ∧ (gNe (f_kd e_at.toNatClampNeg).toInt 59) ∧ (r = 0) ∧ (u = [(a_r, (oc4 a_tk a_rh a_rs a_rc e_ln e_pa o_at e_fp)), (a_tk, (oc8 a_kd a_nm a_pl)), (a_kd, (arI G 401 f_kd))]))) (g5_B G (va_A [(a_r, (oc4 a_tk a_rh a_rs a_rc e_ln e_pa e_at e_fp)), (a_tk, (oc8 a_kd a_nm a_pl)), (a_kd, (arI G 401 f_kd))] sz)) (va_A [(a_r, (oc4 a_tk a_rh a_rs a_rc e_ln e_pa e_at e_fp)), (a_tk, (oc8 a_kd a_nm a_pl)), (a_kd, (arI G 401 f_kd))] sz)) 0 0 (va_A [(a_r, (oc4 a_tk a_rh a_rs a_rc e_ln e_pa e_at e_fp)), (a_tk, (oc8 a_kd a_nm a_pl)), (a_kd, (arI G 401 f_kd))] sz) := by
  refine Met.ofW (cc := cX4_passed) (maxL := 3) (ret := (some .boolean)) (by decide +kernel) rfl ?_
  intro p e s m args below meth c s₁ B hml hv
  obtain ⟨rfl, hsz, hP, hK, hD0, hN, hT⟩ := hv
  have hx := B.exec
  have hb := B.bytes
  have hr := B.returns
  have hts : ∀ w ∈ tblG, w.before _ s = true := fun w h => atoms_spec (ws := (wsG yX4_passed cX4_passed 3 (some .boolean))) B.pre w (List.mem_cons_of_mem _ h)
  have hown : s.vm.findClass RX4 = some m.cls := findClass_of_methodNamed B.named
  have hlocks := B.notSynchronized
  subst hsz
  have hD := hD0.self (sz := s.heap.size)
  generalize hAe : va_A [(a_r, (oc4 a_tk a_rh a_rs a_rc e_ln e_pa e_at e_fp)), (a_tk, (oc8 a_kd a_nm a_pl)), (a_kd, (arI G 401 f_kd))] s.heap.size = A at hD hT ⊢
  have hA : ∀ q : Nat, s.heap.size ≤ q → A q := fun q h => by rw [← hAe]; exact Or.inr h
  have hS : va_S A s.heap s.heap [] := va_S.rf
  replace hP : va_P G.1 vwCl [(a_r, (oc4 a_tk a_rh a_rs a_rc e_ln e_pa e_at e_fp)), (a_tk, (oc8 a_kd a_nm a_pl)), (a_kd, (arI G 401 f_kd))] s.heap := hP
  have hl := lv_entry ([.ref a_r, .int 59]) (n := 3) (Nat.le_of_ble_eq_true rfl)
  rw [lg_entry_eq]
  generalize (lg_sl ([.ref a_r, .int 59]) ++ List.replicate (3 - (lg_sl ([.ref a_r, .int 59])).length) Slot.unset).toArray = ls at hl ⊢
  replace hl : lv_has ls 3 [(0, .ref a_r), (1, .int 59)] := hl
  refine lv_aload_n hx hb dX4_passed_0 rfl (lv_at hl 0 rfl) ?_
  refine va_get (D := G.1) (ci := 4) (v := .int e_at) (C := RX4) (T := TX4) (N := 8) hx hb hts inG_X4 hown hK hP 0 rfl rfl 6 (by decide +kernel) (hts _ fl_X4_42) (fun _ h9 => h9) rfl dX4_passed_1 ?_
  refine lv_aload_n hx hb dX4_passed_4 rfl (lv_at hl 0 rfl) ?_
  refine va_get (D := G.1) (ci := 4) (v := .ref a_tk) (C := RX4) (T := TX4) (N := 8) hx hb hts inG_X4 hown hK hP 0 rfl rfl 0 (by decide +kernel) (hts _ fl_X4_12) (fun _ h9 => h9) rfl dX4_passed_5 ?_
  refine W.eq (g2 := F0 m 8 ls [.ref a_tk, .int e_at]) rfl ?_
  refine va_get (D := G.1) (ci := 8) (v := .ref a_kd) (C := RX8) (T := TX8) (N := 3) hx hb hts inG_X8 hown hK hP 1 rfl rfl 0 (by decide +kernel) (hts _ fl_X4_96) (fun _ h9 => h9) rfl dX4_passed_8 ?_
  refine va_alen hx hb hK hP 2 0 rfl rfl (v := 401) (by show Int32.ofNat 401 = 401; decide) dX4_passed_11 ?_
  refine lv_icmp_ge (tgt := 35) hx hb dX4_passed_12 (by decide +kernel) (fun c_1 => ?_) (fun c_1 => ?_)
  ·
    have i_1 : e_at.toInt ≥ 401 := g5_ge (a := e_at.toInt) (b := 401) rfl (by decide +kernel) c_1
    refine lv_iconst (v := 0) hx hb dX4_passed_35 (by decide +kernel) ?_
    refine lv_istore_n (lv' := [(2, .int 0), (0, .ref a_r), (1, .int 59)]) hx hb dX4_passed_36 rfl hl (by decide +kernel) rfl ?_
    clear hl
    intro ls hl
    refine lv_aload_n hx hb dX4_passed_37 rfl (lv_at hl 1 rfl) ?_
    refine lv_dup hx hb dX4_passed_38 rfl ?_
    refine W.eq (g2 := F0 m 39 ls [.ref a_r, .ref a_r]) rfl ?_
    refine va_get (D := G.1) (ci := 4) (v := .int e_at) (C := RX4) (T := TX4) (N := 8) hx hb hts inG_X4 hown hK hP 0 rfl rfl 6 (by decide +kernel) (hts _ fl_X4_42) (fun _ h9 => h9) rfl dX4_passed_39 ?_
    refine lv_iload_n hx hb dX4_passed_42 rfl (lv_at hl 0 rfl) ?_
    refine lv_if_eq (tgt := 50) hx hb dX4_passed_43 (by decide +kernel) (fun c_2 => ?_) (fun c_2 => ?_)
    ·
      refine lv_iconst (v := 0) hx hb dX4_passed_50 (by decide +kernel) ?_
      refine lv_iadd hx hb dX4_passed_51 ?_
      refine g5_ti (v := e_at) (by simp) ?_
      refine va_put (D := G.1) (ci := 4) (v := .int e_at) (ty := .int) (C := RX4) (T := TX4) (N := 8) hx hb hts inG_X4 tyX4 tyX4_ok nmX4 hown hK hP hD hS 0 rfl rfl 6 (by decide +kernel) (hts _ fl_X4_42) (fun _ h9 => h9) rfl (by decide +kernel) rfl rfl (Nat.le_of_ble_eq_true rfl) dX4_passed_52 ?_
      clear hP hD hS
      intro H locs hP hD hS
      refine g5_rs [(a_r, (oc4 a_tk a_rh a_rs a_rc e_ln e_pa e_at e_fp)), (a_tk, (oc8 a_kd a_nm a_pl)), (a_kd, (arI G 401 f_kd))] hP hD ?_
      clear hP hD
      intro hP hD
      refine lv_iload_n hx hb dX4_passed_55 rfl (lv_at hl 0 rfl) ?_
      refine W.eq (g2 := F0 m 56 ls [.int 0]) rfl ?_
      exact W.zret (v := 0) hx hb hr rfl (fun t ht hW => ⟨⟨0, [(a_r, (oc4 a_tk a_rh a_rs a_rc e_ln e_pa e_at e_fp)), (a_tk, (oc8 a_kd a_nm a_pl)), (a_kd, (arI G 401 f_kd))], rfl, Or.inr (⟨e_at, h_e_at, by omega, by unfold gNe at *; omega, rfl, rfl⟩), by rw [ht]; exact hP.sub [0, 1, 2] rfl, hD.sub [0, 1, 2] (by decide +kernel) rfl⟩, hS.F ht⟩) hS.2.2 dX4_passed_56
    ·
      exact absurd c_2 (by decide +kernel)
  ·
    have i_1 : e_at.toInt < 401 := g5_geN (a := e_at.toInt) (b := 401) rfl (by decide +kernel) c_1
    refine lv_aload_n hx hb dX4_passed_15 rfl (lv_at hl 0 rfl) ?_
    refine va_get (D := G.1) (ci := 4) (v := .ref a_tk) (C := RX4) (T := TX4) (N := 8) hx hb hts inG_X4 hown hK hP 0 rfl rfl 0 (by decide +kernel) (hts _ fl_X4_12) (fun _ h9 => h9) rfl dX4_passed_16 ?_
    refine va_get (D := G.1) (ci := 8) (v := .ref a_kd) (C := RX8) (T := TX8) (N := 3) hx hb hts inG_X8 hown hK hP 1 rfl rfl 0 (by decide +kernel) (hts _ fl_X4_96) (fun _ h9 => h9) rfl dX4_passed_19 ?_
    refine lv_aload_n hx hb dX4_passed_22 rfl (lv_at hl 0 rfl) ?_
    refine W.eq (g2 := F0 m 23 ls [.ref a_r, .ref a_kd]) rfl ?_
    refine va_get (D := G.1) (ci := 4) (v := .int e_at) (C := RX4) (T := TX4) (N := 8) hx hb hts inG_X4 hown hK hP 0 rfl rfl 6 (by decide +kernel) (hts _ fl_X4_42) (fun _ h9 => h9) rfl dX4_passed_23 ?_
    refine va_iald hx hb hK hP 2 0 rfl rfl (i := e_at) (vp_in_iff.mpr ⟨by omega, by omega⟩) dX4_passed_26 ?_
    refine lv_iload_n hx hb dX4_passed_27 rfl (lv_at hl 1 rfl) ?_
    refine lv_icmp_ne (tgt := 35) hx hb dX4_passed_28 (by decide +kernel) (fun c_3 => ?_) (fun c_3 => ?_)
    ·
      have n_3 : gNe ((f_kd e_at.toNatClampNeg).toInt) (59) := g5_ne (a := (f_kd e_at.toNatClampNeg).toInt) (b := 59) rfl (by decide +kernel) c_3
      refine lv_iconst (v := 0) hx hb dX4_passed_35 (by decide +kernel) ?_
      refine lv_istore_n (lv' := [(2, .int 0), (0, .ref a_r), (1, .int 59)]) hx hb dX4_passed_36 rfl hl (by decide +kernel) rfl ?_
      clear hl
      intro ls hl
      refine lv_aload_n hx hb dX4_passed_37 rfl (lv_at hl 1 rfl) ?_
      refine lv_dup hx hb dX4_passed_38 rfl ?_
      refine W.eq (g2 := F0 m 39 ls [.ref a_r, .ref a_r]) rfl ?_
      refine va_get (D := G.1) (ci := 4) (v := .int e_at) (C := RX4) (T := TX4) (N := 8) hx hb hts inG_X4 hown hK hP 0 rfl rfl 6 (by decide +kernel) (hts _ fl_X4_42) (fun _ h9 => h9) rfl dX4_passed_39 ?_
      refine lv_iload_n hx hb dX4_passed_42 rfl (lv_at hl 0 rfl) ?_
      refine lv_if_eq (tgt := 50) hx hb dX4_passed_43 (by decide +kernel) (fun c_4 => ?_) (fun c_4 => ?_)
      ·
        refine lv_iconst (v := 0) hx hb dX4_passed_50 (by decide +kernel) ?_
        refine lv_iadd hx hb dX4_passed_51 ?_
        refine g5_ti (v := e_at) (by simp) ?_
        refine va_put (D := G.1) (ci := 4) (v := .int e_at) (ty := .int) (C := RX4) (T := TX4) (N := 8) hx hb hts inG_X4 tyX4 tyX4_ok nmX4 hown hK hP hD hS 0 rfl rfl 6 (by decide +kernel) (hts _ fl_X4_42) (fun _ h9 => h9) rfl (by decide +kernel) rfl rfl (Nat.le_of_ble_eq_true rfl) dX4_passed_52 ?_
        clear hP hD hS
        intro H locs hP hD hS
        refine g5_rs [(a_r, (oc4 a_tk a_rh a_rs a_rc e_ln e_pa e_at e_fp)), (a_tk, (oc8 a_kd a_nm a_pl)), (a_kd, (arI G 401 f_kd))] hP hD ?_
        clear hP hD
        intro hP hD
        refine lv_iload_n hx hb dX4_passed_55 rfl (lv_at hl 0 rfl) ?_
        refine W.eq (g2 := F0 m 56 ls [.int 0]) rfl ?_
        exact W.zret (v := 0) hx hb hr rfl (fun t ht hW => ⟨⟨0, [(a_r, (oc4 a_tk a_rh a_rs a_rc e_ln e_pa e_at e_fp)), (a_tk, (oc8 a_kd a_nm a_pl)), (a_kd, (arI G 401 f_kd))], rfl, Or.inr (⟨e_at, h_e_at, by omega, by unfold gNe at *; omega, rfl, rfl⟩), by rw [ht]; exact hP.sub [0, 1, 2] rfl, hD.sub [0, 1, 2] (by decide +kernel) rfl⟩, hS.F ht⟩) hS.2.2 dX4_passed_56
      ·
        exact absurd c_4 (by decide +kernel)
    ·
      have i_3 : (f_kd e_at.toNatClampNeg).toInt = 59 := g5_neN (a := (f_kd e_at.toNatClampNeg).toInt) (b := 59) rfl (by decide +kernel) c_3
      refine lv_iconst (v := 1) hx hb dX4_passed_31 (by decide +kernel) ?_
      refine lv_goto (tgt := 36) hx hb dX4_passed_32 (by decide +kernel) ?_
      refine lv_istore_n (lv' := [(2, .int 1), (0, .ref a_r), (1, .int 59)]) hx hb dX4_passed_36 rfl hl (by decide +kernel) rfl ?_
      clear hl
      intro ls hl
      refine lv_aload_n hx hb dX4_passed_37 rfl (lv_at hl 1 rfl) ?_
      refine W.eq (g2 := F0 m 38 ls [.ref a_r]) rfl ?_
      refine lv_dup hx hb dX4_passed_38 rfl ?_
      refine va_get (D := G.1) (ci := 4) (v := .int e_at) (C := RX4) (T := TX4) (N := 8) hx hb hts inG_X4 hown hK hP 0 rfl rfl 6 (by decide +kernel) (hts _ fl_X4_42) (fun _ h9 => h9) rfl dX4_passed_39 ?_
      refine lv_iload_n hx hb dX4_passed_42 rfl (lv_at hl 0 rfl) ?_
      refine lv_if_eq (tgt := 50) hx hb dX4_passed_43 (by decide +kernel) (fun c_5 => ?_) (fun c_5 => ?_)
      ·
        exact absurd c_5 (by decide +kernel)
      ·
        refine lv_iconst (v := 1) hx hb dX4_passed_46 (by decide +kernel) ?_
        refine lv_goto (tgt := 51) hx hb dX4_passed_47 (by decide +kernel) ?_
        refine lv_iadd hx hb dX4_passed_51 ?_
        have t_6 : (e_at + 1).toInt = e_at.toInt + 1 := g5_iadd (a := e_at.toInt) (b := 1) (by rfl) (by decide +kernel) (by omega) (by omega)
        refine va_put (D := G.1) (ci := 4) (v := .int (e_at + 1)) (ty := .int) (C := RX4) (T := TX4) (N := 8) hx hb hts inG_X4 tyX4 tyX4_ok nmX4 hown hK hP hD hS 0 rfl rfl 6 (by decide +kernel) (hts _ fl_X4_42) (fun _ h9 => h9) rfl (by decide +kernel) rfl rfl (Nat.le_of_ble_eq_true rfl) dX4_passed_52 ?_
        clear hP hD hS
        intro H locs hP hD hS
        refine g5_rs [(a_r, (oc4 a_tk a_rh a_rs a_rc e_ln e_pa (e_at + 1) e_fp)), (a_tk, (oc8 a_kd a_nm a_pl)), (a_kd, (arI G 401 f_kd))] hP hD ?_
        clear hP hD
        intro hP hD
        refine W.eq (g2 := F0 m 55 ls []) rfl ?_
        refine lv_iload_n hx hb dX4_passed_55 rfl (lv_at hl 0 rfl) ?_
        exact W.zret (v := 1) hx hb hr rfl (fun t ht hW => ⟨⟨1, [(a_r, (oc4 a_tk a_rh a_rs a_rc e_ln e_pa (e_at + 1) e_fp)), (a_tk, (oc8 a_kd a_nm a_pl)), (a_kd, (arI G 401 f_kd))], rfl, Or.inl (⟨(e_at + 1), ⟨by omega, by omega⟩, by omega, by omega, rfl, rfl⟩), by rw [ht]; exact hP.sub [0, 1, 2] rfl, hD.sub [0, 1, 2] (by decide +kernel) rfl⟩, hS.F ht⟩) hS.2.2 dX4_passed_56
set_option maxHeartbeats 4000000 in
set_option maxRecDepth 100000 in
theorem k_kindAtX (l : Launch) (G : g5_G) (a_tk a_kd a_nm a_pl : Nat) (sz : Nat) (p_t : Int32) (f_kd : Nat → Int32) (h_p_t : 0 ≤ p_t.toInt ∧ p_t.toInt ≤ 400) : Met l yX8_kindAt (wsG yX8_kindAt cX8_kindAt 2 (some .int)) ({ frames := 0, cells := 0, slots := 0, locals := 0 }) (va_Pc [.ref a_tk, .int p_t] (g5_P G [(a_tk, (oc8 a_kd a_nm a_pl)), (a_kd, (arI G 401 f_kd))] sz)) (va_Qi (fun (r : Int32) (u : va_W) => (∃ (o_r : Int32), (o_r = f_kd p_t.toNatClampNeg) ∧ (r = o_r) ∧ (u = [(a_tk, (oc8 a_kd a_nm a_pl)), (a_kd, (arI G 401 f_kd))]))) (g5_B G (va_A [(a_tk, (oc8 a_kd a_nm a_pl)), (a_kd, (arI G 401 f_kd))] sz)) (va_A [(a_tk, (oc8 a_kd a_nm a_pl)), (a_kd, (arI G 401 f_kd))] sz)) 0 0 (va_A [(a_tk, (oc8 a_kd a_nm a_pl)), (a_kd, (arI G 401 f_kd))] sz) := by
  refine Met.ofW (cc := cX8_kindAt) (maxL := 2) (ret := (some .int)) (by decide) rfl ?_
  intro p e s m args below meth c s₁ B hml hv
  obtain ⟨rfl, hsz, hP, hK, hD0, hN, hT⟩ := hv
  have hx := B.exec
  have hb := B.bytes
  have hr := B.returns
  have hts : ∀ w ∈ tblG, w.before _ s = true := fun w h => atoms_spec (ws := (wsG yX8_kindAt cX8_kindAt 2 (some .int))) B.pre w (List.mem_cons_of_mem _ h)
  have hown : s.vm.findClass RX8 = some m.cls := findClass_of_methodNamed B.named
  have hlocks := B.notSynchronized
  subst hsz
  have hD := hD0.self (sz := s.heap.size)
  generalize hAe : va_A [(a_tk, (oc8 a_kd a_nm a_pl)), (a_kd, (arI G 401 f_kd))] s.heap.size = A at hD hT ⊢
  have hA : ∀ q : Nat, s.heap.size ≤ q → A q := fun q h => by rw [← hAe]; exact Or.inr h
  have hS : va_S A s.heap s.heap [] := va_S.rf
  have hP : va_P G.1 vwCl [(a_tk, (oc8 a_kd a_nm a_pl)), (a_kd, (arI G 401 f_kd))] s.heap := hP
  have hl := lv_entry ([.ref a_tk, .int p_t]) (n := 2) (Nat.le_of_ble_eq_true rfl)
  rw [lg_entry_eq]
  generalize (lg_sl ([.ref a_tk, .int p_t]) ++ List.replicate (2 - (lg_sl ([.ref a_tk, .int p_t])).length) Slot.unset).toArray = ls at hl ⊢
  have hl : lv_has ls 2 [(0, .ref a_tk), (1, .int p_t)] := hl
  refine lv_iload_n hx hb dX8_kindAt_0 rfl (lv_at hl 1 rfl) ?_
  refine lv_if_lt (tgt := 22) hx hb dX8_kindAt_1 (by decide) (fun c_1 => ?_) (fun c_1 => ?_)
  ·
    have i_1 : p_t.toInt < 0 := by have z := g5_lt (a := p_t.toInt) (b := 0) (by rfl) (by decide) c_1; omega
    omega
  ·
    have i_1 : p_t.toInt ≥ 0 := by have z := g5_ltN (a := p_t.toInt) (b := 0) (by rfl) (by decide) c_1; omega
    refine lv_iload_n hx hb dX8_kindAt_4 rfl (lv_at hl 1 rfl) ?_
    refine lv_aload_n hx hb dX8_kindAt_5 rfl (lv_at hl 0 rfl) ?_
    refine va_get (D := G.1) (ci := 8) (v := .ref a_kd) (C := RX8) (T := TX8) (N := 3) hx hb hts inG_X8 hown hK hP 0 rfl rfl 0 (by decide) (hts _ fl_X8_9) (fun _ h9 => h9) rfl dX8_kindAt_6 ?_
    refine va_alen hx hb hK hP 1 0 rfl rfl (v := 401) (by show Int32.ofNat 401 = 401; decide) dX8_kindAt_9 ?_
    refine W.eq (g2 := F0 m 10 ls [.int 401, .int p_t]) rfl ?_
    refine lv_icmp_ge (tgt := 22) hx hb dX8_kindAt_10 (by decide) (fun c_2 => ?_) (fun c_2 => ?_)
    ·
      have i_2 : p_t.toInt ≥ 401 := by have z := g5_ge (a := p_t.toInt) (b := 401) (by rfl) (by decide) c_2; omega
      omega
    ·
      have i_2 : p_t.toInt < 401 := by have z := g5_geN (a := p_t.toInt) (b := 401) (by rfl) (by decide) c_2; omega
      refine lv_aload_n hx hb dX8_kindAt_13 rfl (lv_at hl 0 rfl) ?_
      refine va_get (D := G.1) (ci := 8) (v := .ref a_kd) (C := RX8) (T := TX8) (N := 3) hx hb hts inG_X8 hown hK hP 0 rfl rfl 0 (by decide) (hts _ fl_X8_9) (fun _ h9 => h9) rfl dX8_kindAt_14 ?_
      refine lv_iload_n hx hb dX8_kindAt_17 rfl (lv_at hl 1 rfl) ?_
      refine va_iald hx hb hK hP 1 0 rfl rfl (i := p_t) (vp_in_iff.mpr ⟨by omega, by omega⟩) dX8_kindAt_18 ?_
      refine W.eq (g2 := F0 m 19 ls [.int (f_kd p_t.toNatClampNeg)]) rfl ?_
      refine lv_goto (tgt := 25) hx hb dX8_kindAt_19 (by decide) ?_
      exact W.iret (v := (f_kd p_t.toNatClampNeg)) hx hb hr (fun t ht hW => ⟨⟨(f_kd p_t.toNatClampNeg), [(a_tk, (oc8 a_kd a_nm a_pl)), (a_kd, (arI G 401 f_kd))], rfl, ⟨(f_kd p_t.toNatClampNeg), rfl, rfl, rfl⟩, by rw [ht]; exact hP.sub [0, 1] rfl, hD.sub [0, 1] (by decide) rfl⟩, hS.F ht⟩) hS.2.2 dX8_kindAt_25
set_option maxHeartbeats 4000000 in
set_option maxRecDepth 100000 in
theorem r_jumpX (l : Launch) (G : g5_G) (a_r a_rc a_tk a_rh a_rs : Nat) (sz : Nat) (e_ln : Int32) (e_pa : Int32) (e_at : Int32) (e_fp : Int32) (p_j : Int32) (f_rc : Nat → Int32) (h_e_ln : 0 ≤ e_ln.toInt ∧ e_ln.toInt ≤ 400) (h_e_pa : 0 ≤ e_pa.toInt ∧ e_pa.toInt ≤ 50) (h_e_at : 0 ≤ e_at.toInt ∧ e_at.toInt ≤ 401) (h_p_j : (-1) ≤ p_j.toInt ∧ p_j.toInt ≤ 399) (e_cd : CDI f_rc e_ln.toInt) (e_jk : JOK f_rc e_ln.toInt p_j) : Met l yX4_jumpHere (wsG yX4_jumpHere cX4_jumpHere 2 none) ({ frames := 0, cells := 0, slots := 0, locals := 0 }) (va_Pc [.ref a_r, .int p_j] (g5_P G [(a_r, (oc4 a_tk a_rh a_rs a_rc e_ln e_pa e_at e_fp)), (a_rc, (arI G 400 f_rc))] sz)) (va_Qv (fun (u : va_W) => ((p_j.toInt < 0) ∧ (u = [(a_r, (oc4 a_tk a_rh a_rs a_rc e_ln e_pa e_at e_fp)), (a_rc, (arI G 400 f_rc))])) ∨ (∃ (o_rc : Nat → Int32), (CDI o_rc e_ln.toInt) ∧ (OPK f_rc o_rc e_ln.toInt) ∧ (0 ≤ p_j.toInt) ∧ (o_rc = upd f_rc p_j.toNatClampNeg (f_rc p_j.toNatClampNeg ||| e_ln)) ∧ (u = [(a_r, (oc4 a_tk a_rh a_rs a_rc e_ln e_pa e_at e_fp)), (a_rc, (arI G 400 o_rc))]))) (g5_B G (va_A [(a_r, (oc4 a_tk a_rh a_rs a_rc e_ln e_pa e_at e_fp)), (a_rc, (arI G 400 f_rc))] sz)) (va_A [(a_r, (oc4 a_tk a_rh a_rs a_rc e_ln e_pa e_at e_fp)), (a_rc, (arI G 400 f_rc))] sz)) 0 0 (va_A [(a_r, (oc4 a_tk a_rh a_rs a_rc e_ln e_pa e_at e_fp)), (a_rc, (arI G 400 f_rc))] sz) := by
  refine Met.ofW (cc := cX4_jumpHere) (maxL := 2) (ret := none) (by decide +kernel) rfl ?_
  intro p e s m args below meth c s₁ B hml hv
  obtain ⟨rfl, hsz, hP, hK, hD0, hN, hT⟩ := hv
  have hx := B.exec
  have hb := B.bytes
  have hr := B.returns
  have hts : ∀ w ∈ tblG, w.before _ s = true := fun w h => atoms_spec (ws := (wsG yX4_jumpHere cX4_jumpHere 2 none)) B.pre w (List.mem_cons_of_mem _ h)
  have hown : s.vm.findClass RX4 = some m.cls := findClass_of_methodNamed B.named
  have hlocks := B.notSynchronized
  subst hsz
  have hD := hD0.self (sz := s.heap.size)
  generalize hAe : va_A [(a_r, (oc4 a_tk a_rh a_rs a_rc e_ln e_pa e_at e_fp)), (a_rc, (arI G 400 f_rc))] s.heap.size = A at hD hT ⊢
  have hA : ∀ q : Nat, s.heap.size ≤ q → A q := fun q h => by rw [← hAe]; exact Or.inr h
  have hS : va_S A s.heap s.heap [] := va_S.rf
  replace hP : va_P G.1 vwCl [(a_r, (oc4 a_tk a_rh a_rs a_rc e_ln e_pa e_at e_fp)), (a_rc, (arI G 400 f_rc))] s.heap := hP
  have hl := lv_entry ([.ref a_r, .int p_j]) (n := 2) (Nat.le_of_ble_eq_true rfl)
  rw [lg_entry_eq]
  generalize (lg_sl ([.ref a_r, .int p_j]) ++ List.replicate (2 - (lg_sl ([.ref a_r, .int p_j])).length) Slot.unset).toArray = ls at hl ⊢
  replace hl : lv_has ls 2 [(0, .ref a_r), (1, .int p_j)] := hl
  refine lv_iload_n hx hb dX4_jumpHere_0 rfl (lv_at hl 1 rfl) ?_
  refine lv_if_lt (tgt := 26) hx hb dX4_jumpHere_1 (by decide +kernel) (fun c_1 => ?_) (fun c_1 => ?_)
  ·
    have i_1 : p_j.toInt < 0 := g5_lt (a := p_j.toInt) (b := 0) rfl (by decide +kernel) c_1
    exact W.vret hx hb hr (fun t ht hW => ⟨⟨[(a_r, (oc4 a_tk a_rh a_rs a_rc e_ln e_pa e_at e_fp)), (a_rc, (arI G 400 f_rc))], rfl, Or.inl (⟨by omega, rfl⟩), by rw [ht]; exact hP.sub [0, 1] rfl, hD.sub [0, 1] (by decide +kernel) rfl⟩, hS.F ht⟩) hS.2.2 dX4_jumpHere_26
  ·
    have i_1 : p_j.toInt ≥ 0 := g5_ltN (a := p_j.toInt) (b := 0) rfl (by decide +kernel) c_1
    refine lv_iload_n hx hb dX4_jumpHere_4 rfl (lv_at hl 1 rfl) ?_
    refine lv_aload_n hx hb dX4_jumpHere_5 rfl (lv_at hl 0 rfl) ?_
    refine va_get (D := G.1) (ci := 4) (v := .ref a_rc) (C := RX4) (T := TX4) (N := 8) hx hb hts inG_X4 hown hK hP 0 rfl rfl 3 (by decide +kernel) (hts _ fl_X4_25) (fun _ h9 => h9) rfl dX4_jumpHere_6 ?_
    refine va_alen hx hb hK hP 1 0 rfl rfl (v := 400) (by show Int32.ofNat 400 = 400; decide) dX4_jumpHere_9 ?_
    refine W.eq (g2 := F0 m 10 ls [.int 400, .int p_j]) rfl ?_
    refine lv_icmp_ge (tgt := 26) hx hb dX4_jumpHere_10 (by decide +kernel) (fun c_2 => ?_) (fun c_2 => ?_)
    ·
      have i_2 : p_j.toInt ≥ 400 := g5_ge (a := p_j.toInt) (b := 400) rfl (by decide +kernel) c_2
      omega
    ·
      have i_2 : p_j.toInt < 400 := g5_geN (a := p_j.toInt) (b := 400) rfl (by decide +kernel) c_2
      refine lv_aload_n hx hb dX4_jumpHere_13 rfl (lv_at hl 0 rfl) ?_
      refine va_get (D := G.1) (ci := 4) (v := .ref a_rc) (C := RX4) (T := TX4) (N := 8) hx hb hts inG_X4 hown hK hP 0 rfl rfl 3 (by decide +kernel) (hts _ fl_X4_25) (fun _ h9 => h9) rfl dX4_jumpHere_14 ?_
      refine lv_iload_n hx hb dX4_jumpHere_17 rfl (lv_at hl 1 rfl) ?_
      refine lv_dup2_11 hx hb dX4_jumpHere_18 rfl rfl ?_
      refine W.eq (g2 := F0 m 19 ls [.int p_j, .ref a_rc, .int p_j, .ref a_rc]) rfl ?_
      refine va_iald hx hb hK hP 1 0 rfl rfl (i := p_j) (vp_in_iff.mpr ⟨by omega, by omega⟩) dX4_jumpHere_19 ?_
      refine lv_aload_n hx hb dX4_jumpHere_20 rfl (lv_at hl 0 rfl) ?_
      refine va_get (D := G.1) (ci := 4) (v := .int e_ln) (C := RX4) (T := TX4) (N := 8) hx hb hts inG_X4 hown hK hP 0 rfl rfl 4 (by decide +kernel) (hts _ fl_X4_36) (fun _ h9 => h9) rfl dX4_jumpHere_21 ?_
      refine lv_ior hx hb dX4_jumpHere_24 ?_
      refine va_iast hx hb hK hP hD hS 1 0 rfl rfl (i := p_j) (x := ((f_rc p_j.toNatClampNeg) ||| e_ln)) (vp_in_iff.mpr ⟨by omega, by omega⟩) dX4_jumpHere_25 ?_
      clear hP hD hS
      intro H locs hP hD hS
      refine g5_rs [(a_r, (oc4 a_tk a_rh a_rs a_rc e_ln e_pa e_at e_fp)), (a_rc, (arI G 400 (upd f_rc p_j.toNatClampNeg ((f_rc p_j.toNatClampNeg) ||| e_ln))))] hP hD ?_
      clear hP hD
      intro hP hD
      refine W.eq (g2 := F0 m 26 ls []) rfl ?_
      exact W.vret hx hb hr (fun t ht hW => ⟨⟨[(a_r, (oc4 a_tk a_rh a_rs a_rc e_ln e_pa e_at e_fp)), (a_rc, (arI G 400 (upd f_rc p_j.toNatClampNeg ((f_rc p_j.toNatClampNeg) ||| e_ln))))], rfl, Or.inr (⟨(upd f_rc p_j.toNatClampNeg ((f_rc p_j.toNatClampNeg) ||| e_ln)), cdi_jump e_cd e_jk (by omega) (by omega) (by omega), opk_jump (by omega) (by omega), by omega, rfl, rfl⟩), by rw [ht]; exact hP.sub [0, 1] rfl, hD.sub [0, 1] (by decide +kernel) rfl⟩, hS.F ht⟩) hS.2.2 dX4_jumpHere_26
set_option maxHeartbeats 4000000 in
set_option maxRecDepth 100000 in
theorem r_jumpXp (l : Launch) (G : g5_G) (a_r a_rc a_tk a_rh a_rs : Nat) (sz : Nat) (e_ln : Int32) (e_pa : Int32) (e_at : Int32) (e_fp : Int32) (p_j : Int32) (f_rc : Nat → Int32) (h_e_ln : 0 ≤ e_ln.toInt ∧ e_ln.toInt ≤ 400) (h_e_pa : 0 ≤ e_pa.toInt ∧ e_pa.toInt ≤ 50) (h_e_at : 0 ≤ e_at.toInt ∧ e_at.toInt ≤ 401) (h_p_j : 0 ≤ p_j.toInt ∧ p_j.toInt ≤ 399) (e_cd : CDI f_rc e_ln.toInt) (e_jk : JOK f_rc e_ln.toInt p_j) : Met l yX4_jumpHere (wsG yX4_jumpHere cX4_jumpHere 2 none) ({ frames := 0, cells := 0, slots := 0, locals := 0 }) (va_Pc [.ref a_r, .int p_j] (g5_P G [(a_r, (oc4 a_tk a_rh a_rs a_rc e_ln e_pa e_at e_fp)), (a_rc, (arI G 400 f_rc))] sz)) (va_Qv (fun (u : va_W) => (∃ (o_rc : Nat → Int32), (CDI o_rc e_ln.toInt) ∧ (OPK f_rc o_rc e_ln.toInt) ∧ (o_rc = upd f_rc p_j.toNatClampNeg (f_rc p_j.toNatClampNeg ||| e_ln)) ∧ (u = [(a_r, (oc4 a_tk a_rh a_rs a_rc e_ln e_pa e_at e_fp)), (a_rc, (arI G 400 o_rc))]))) (g5_B G (va_A [(a_r, (oc4 a_tk a_rh a_rs a_rc e_ln e_pa e_at e_fp)), (a_rc, (arI G 400 f_rc))] sz)) (va_A [(a_r, (oc4 a_tk a_rh a_rs a_rc e_ln e_pa e_at e_fp)), (a_rc, (arI G 400 f_rc))] sz)) 0 0 (va_A [(a_r, (oc4 a_tk a_rh a_rs a_rc e_ln e_pa e_at e_fp)), (a_rc, (arI G 400 f_rc))] sz) := by
  refine Met.ofW (cc := cX4_jumpHere) (maxL := 2) (ret := none) (by decide +kernel) rfl ?_
  intro p e s m args below meth c s₁ B hml hv
  obtain ⟨rfl, hsz, hP, hK, hD0, hN, hT⟩ := hv
  have hx := B.exec
  have hb := B.bytes
  have hr := B.returns
  have hts : ∀ w ∈ tblG, w.before _ s = true := fun w h => atoms_spec (ws := (wsG yX4_jumpHere cX4_jumpHere 2 none)) B.pre w (List.mem_cons_of_mem _ h)
  have hown : s.vm.findClass RX4 = some m.cls := findClass_of_methodNamed B.named
  have hlocks := B.notSynchronized
  subst hsz
  have hD := hD0.self (sz := s.heap.size)
  generalize hAe : va_A [(a_r, (oc4 a_tk a_rh a_rs a_rc e_ln e_pa e_at e_fp)), (a_rc, (arI G 400 f_rc))] s.heap.size = A at hD hT ⊢
  have hA : ∀ q : Nat, s.heap.size ≤ q → A q := fun q h => by rw [← hAe]; exact Or.inr h
  have hS : va_S A s.heap s.heap [] := va_S.rf
  replace hP : va_P G.1 vwCl [(a_r, (oc4 a_tk a_rh a_rs a_rc e_ln e_pa e_at e_fp)), (a_rc, (arI G 400 f_rc))] s.heap := hP
  have hl := lv_entry ([.ref a_r, .int p_j]) (n := 2) (Nat.le_of_ble_eq_true rfl)
  rw [lg_entry_eq]
  generalize (lg_sl ([.ref a_r, .int p_j]) ++ List.replicate (2 - (lg_sl ([.ref a_r, .int p_j])).length) Slot.unset).toArray = ls at hl ⊢
  replace hl : lv_has ls 2 [(0, .ref a_r), (1, .int p_j)] := hl
  refine lv_iload_n hx hb dX4_jumpHere_0 rfl (lv_at hl 1 rfl) ?_
  refine lv_if_lt (tgt := 26) hx hb dX4_jumpHere_1 (by decide +kernel) (fun c_1 => ?_) (fun c_1 => ?_)
  ·
    have i_1 : p_j.toInt < 0 := g5_lt (a := p_j.toInt) (b := 0) rfl (by decide +kernel) c_1
    omega
  ·
    have i_1 : p_j.toInt ≥ 0 := g5_ltN (a := p_j.toInt) (b := 0) rfl (by decide +kernel) c_1
    refine lv_iload_n hx hb dX4_jumpHere_4 rfl (lv_at hl 1 rfl) ?_
    refine lv_aload_n hx hb dX4_jumpHere_5 rfl (lv_at hl 0 rfl) ?_
    refine va_get (D := G.1) (ci := 4) (v := .ref a_rc) (C := RX4) (T := TX4) (N := 8) hx hb hts inG_X4 hown hK hP 0 rfl rfl 3 (by decide +kernel) (hts _ fl_X4_25) (fun _ h9 => h9) rfl dX4_jumpHere_6 ?_
    refine va_alen hx hb hK hP 1 0 rfl rfl (v := 400) (by show Int32.ofNat 400 = 400; decide) dX4_jumpHere_9 ?_
    refine W.eq (g2 := F0 m 10 ls [.int 400, .int p_j]) rfl ?_
    refine lv_icmp_ge (tgt := 26) hx hb dX4_jumpHere_10 (by decide +kernel) (fun c_2 => ?_) (fun c_2 => ?_)
    ·
      have i_2 : p_j.toInt ≥ 400 := g5_ge (a := p_j.toInt) (b := 400) rfl (by decide +kernel) c_2
      omega
    ·
      have i_2 : p_j.toInt < 400 := g5_geN (a := p_j.toInt) (b := 400) rfl (by decide +kernel) c_2
      refine lv_aload_n hx hb dX4_jumpHere_13 rfl (lv_at hl 0 rfl) ?_
      refine va_get (D := G.1) (ci := 4) (v := .ref a_rc) (C := RX4) (T := TX4) (N := 8) hx hb hts inG_X4 hown hK hP 0 rfl rfl 3 (by decide +kernel) (hts _ fl_X4_25) (fun _ h9 => h9) rfl dX4_jumpHere_14 ?_
      refine lv_iload_n hx hb dX4_jumpHere_17 rfl (lv_at hl 1 rfl) ?_
      refine lv_dup2_11 hx hb dX4_jumpHere_18 rfl rfl ?_
      refine W.eq (g2 := F0 m 19 ls [.int p_j, .ref a_rc, .int p_j, .ref a_rc]) rfl ?_
      refine va_iald hx hb hK hP 1 0 rfl rfl (i := p_j) (vp_in_iff.mpr ⟨by omega, by omega⟩) dX4_jumpHere_19 ?_
      refine lv_aload_n hx hb dX4_jumpHere_20 rfl (lv_at hl 0 rfl) ?_
      refine va_get (D := G.1) (ci := 4) (v := .int e_ln) (C := RX4) (T := TX4) (N := 8) hx hb hts inG_X4 hown hK hP 0 rfl rfl 4 (by decide +kernel) (hts _ fl_X4_36) (fun _ h9 => h9) rfl dX4_jumpHere_21 ?_
      refine lv_ior hx hb dX4_jumpHere_24 ?_
      refine va_iast hx hb hK hP hD hS 1 0 rfl rfl (i := p_j) (x := ((f_rc p_j.toNatClampNeg) ||| e_ln)) (vp_in_iff.mpr ⟨by omega, by omega⟩) dX4_jumpHere_25 ?_
      clear hP hD hS
      intro H locs hP hD hS
      refine g5_rs [(a_r, (oc4 a_tk a_rh a_rs a_rc e_ln e_pa e_at e_fp)), (a_rc, (arI G 400 (upd f_rc p_j.toNatClampNeg ((f_rc p_j.toNatClampNeg) ||| e_ln))))] hP hD ?_
      clear hP hD
      intro hP hD
      refine W.eq (g2 := F0 m 26 ls []) rfl ?_
      exact W.vret hx hb hr (fun t ht hW => ⟨⟨[(a_r, (oc4 a_tk a_rh a_rs a_rc e_ln e_pa e_at e_fp)), (a_rc, (arI G 400 (upd f_rc p_j.toNatClampNeg ((f_rc p_j.toNatClampNeg) ||| e_ln))))], rfl, ⟨(upd f_rc p_j.toNatClampNeg ((f_rc p_j.toNatClampNeg) ||| e_ln)), cdi_jump e_cd e_jk (by omega) (by omega) (by omega), opk_jump (by omega) (by omega), rfl, rfl⟩, by rw [ht]; exact hP.sub [0, 1] rfl, hD.sub [0, 1] (by decide +kernel) rfl⟩, hS.F ht⟩) hS.2.2 dX4_jumpHere_26
set_option maxHeartbeats 4000000 in
set_option maxRecDepth 100000 in
theorem r_emitX (l : Launch) (G : g5_G) (a_r a_rc a_tk a_rh a_rs : Nat) (sz : Nat) (e_ln : Int32) (e_pa : Int32) (e_at : Int32) (e_fp : Int32) (p_o : Int32) (p_a : Int32) (f_rc : Nat → Int32) (h_e_ln : 0 ≤ e_ln.toInt ∧ e_ln.toInt ≤ 400) (h_e_pa : 0 ≤ e_pa.toInt ∧ e_pa.toInt ≤ 50) (h_e_at : 0 ≤ e_at.toInt ∧ e_at.toInt ≤ 401) (e_cd : CDI f_rc e_ln.toInt) (e_v : wOK ((p_o <<< (12 &&& 31)) ||| p_a)) (e_l4 : e_ln.toInt < 400) : Met l yX4_emit (wsG yX4_emit cX4_emit 3 (some .int)) ({ frames := 0, cells := 0, slots := 0, locals := 0 }) (va_Pc [.ref a_r, .int p_o, .int p_a] (g5_P G [(a_r, (oc4 a_tk a_rh a_rs a_rc e_ln e_pa e_at e_fp)), (a_rc, (arI G 400 f_rc))] sz)) (va_Qi (fun (r : Int32) (u : va_W) => (∃ (o_r : Int32) (o_ln : Int32) (o_rc : Nat → Int32), (0 ≤ o_r.toInt ∧ o_r.toInt ≤ 399) ∧ (o_r.toInt = e_ln.toInt) ∧ (o_ln.toInt = e_ln.toInt + 1) ∧ (e_ln.toInt ≤ o_ln.toInt ∧ o_ln.toInt ≤ 400) ∧ (CDI o_rc o_ln.toInt) ∧ (OPK f_rc o_rc e_ln.toInt) ∧ (0 ≤ o_r.toInt → o_r.toInt < o_ln.toInt ∧ o_rc o_r.toNatClampNeg = ((p_o <<< (12 &&& 31)) ||| p_a)) ∧ (o_rc = upd f_rc e_ln.toNatClampNeg ((p_o <<< (12 &&& 31)) ||| p_a)) ∧ (r = o_r) ∧ (u = [(a_r, (oc4 a_tk a_rh a_rs a_rc o_ln e_pa e_at e_fp)), (a_rc, (arI G 400 o_rc))]))) (g5_B G (va_A [(a_r, (oc4 a_tk a_rh a_rs a_rc e_ln e_pa e_at e_fp)), (a_rc, (arI G 400 f_rc))] sz)) (va_A [(a_r, (oc4 a_tk a_rh a_rs a_rc e_ln e_pa e_at e_fp)), (a_rc, (arI G 400 f_rc))] sz)) 0 0 (va_A [(a_r, (oc4 a_tk a_rh a_rs a_rc e_ln e_pa e_at e_fp)), (a_rc, (arI G 400 f_rc))] sz) := by
  refine Met.ofW (cc := cX4_emit) (maxL := 3) (ret := (some .int)) (by decide +kernel) rfl ?_
  intro p e s m args below meth c s₁ B hml hv
  obtain ⟨rfl, hsz, hP, hK, hD0, hN, hT⟩ := hv
  have hx := B.exec
  have hb := B.bytes
  have hr := B.returns
  have hts : ∀ w ∈ tblG, w.before _ s = true := fun w h => atoms_spec (ws := (wsG yX4_emit cX4_emit 3 (some .int))) B.pre w (List.mem_cons_of_mem _ h)
  have hown : s.vm.findClass RX4 = some m.cls := findClass_of_methodNamed B.named
  have hlocks := B.notSynchronized
  subst hsz
  have hD := hD0.self (sz := s.heap.size)
  generalize hAe : va_A [(a_r, (oc4 a_tk a_rh a_rs a_rc e_ln e_pa e_at e_fp)), (a_rc, (arI G 400 f_rc))] s.heap.size = A at hD hT ⊢
  have hA : ∀ q : Nat, s.heap.size ≤ q → A q := fun q h => by rw [← hAe]; exact Or.inr h
  have hS : va_S A s.heap s.heap [] := va_S.rf
  replace hP : va_P G.1 vwCl [(a_r, (oc4 a_tk a_rh a_rs a_rc e_ln e_pa e_at e_fp)), (a_rc, (arI G 400 f_rc))] s.heap := hP
  have hl := lv_entry ([.ref a_r, .int p_o, .int p_a]) (n := 3) (Nat.le_of_ble_eq_true rfl)
  rw [lg_entry_eq]
  generalize (lg_sl ([.ref a_r, .int p_o, .int p_a]) ++ List.replicate (3 - (lg_sl ([.ref a_r, .int p_o, .int p_a])).length) Slot.unset).toArray = ls at hl ⊢
  replace hl : lv_has ls 3 [(0, .ref a_r), (1, .int p_o), (2, .int p_a)] := hl
  refine lv_aload_n hx hb dX4_emit_0 rfl (lv_at hl 0 rfl) ?_
  refine va_get (D := G.1) (ci := 4) (v := .int e_ln) (C := RX4) (T := TX4) (N := 8) hx hb hts inG_X4 hown hK hP 0 rfl rfl 4 (by decide +kernel) (hts _ fl_X4_36) (fun _ h9 => h9) rfl dX4_emit_1 ?_
  refine lv_aload_n hx hb dX4_emit_4 rfl (lv_at hl 0 rfl) ?_
  refine va_get (D := G.1) (ci := 4) (v := .ref a_rc) (C := RX4) (T := TX4) (N := 8) hx hb hts inG_X4 hown hK hP 0 rfl rfl 3 (by decide +kernel) (hts _ fl_X4_25) (fun _ h9 => h9) rfl dX4_emit_5 ?_
  refine W.eq (g2 := F0 m 8 ls [.ref a_rc, .int e_ln]) rfl ?_
  refine va_alen hx hb hK hP 1 0 rfl rfl (v := 400) (by show Int32.ofNat 400 = 400; decide) dX4_emit_8 ?_
  refine lv_icmp_lt (tgt := 14) hx hb dX4_emit_9 (by decide +kernel) (fun c_1 => ?_) (fun c_1 => ?_)
  ·
    have i_1 : e_ln.toInt < 400 := g5_lt (a := e_ln.toInt) (b := 400) rfl (by decide +kernel) c_1
    refine lv_aload_n hx hb dX4_emit_14 rfl (lv_at hl 0 rfl) ?_
    refine va_get (D := G.1) (ci := 4) (v := .ref a_rc) (C := RX4) (T := TX4) (N := 8) hx hb hts inG_X4 hown hK hP 0 rfl rfl 3 (by decide +kernel) (hts _ fl_X4_25) (fun _ h9 => h9) rfl dX4_emit_15 ?_
    refine lv_aload_n hx hb dX4_emit_18 rfl (lv_at hl 0 rfl) ?_
    refine va_get (D := G.1) (ci := 4) (v := .int e_ln) (C := RX4) (T := TX4) (N := 8) hx hb hts inG_X4 hown hK hP 0 rfl rfl 4 (by decide +kernel) (hts _ fl_X4_36) (fun _ h9 => h9) rfl dX4_emit_19 ?_
    refine W.eq (g2 := F0 m 22 ls [.int e_ln, .ref a_rc]) rfl ?_
    refine lv_iload_n hx hb dX4_emit_22 rfl (lv_at hl 1 rfl) ?_
    refine lv_bipush (v := 12) hx hb dX4_emit_23 (by decide +kernel) ?_
    refine lv_ishl hx hb dX4_emit_25 ?_
    refine lv_iload_n hx hb dX4_emit_26 rfl (lv_at hl 2 rfl) ?_
    refine lv_ior hx hb dX4_emit_27 ?_
    refine W.eq (g2 := F0 m 28 ls [.int ((p_o <<< (12 &&& 31)) ||| p_a), .int e_ln, .ref a_rc]) rfl ?_
    refine va_iast hx hb hK hP hD hS 1 0 rfl rfl (i := e_ln) (x := ((p_o <<< (12 &&& 31)) ||| p_a)) (vp_in_iff.mpr ⟨by omega, by omega⟩) dX4_emit_28 ?_
    clear hP hD hS
    intro H locs hP hD hS
    refine g5_rs [(a_r, (oc4 a_tk a_rh a_rs a_rc e_ln e_pa e_at e_fp)), (a_rc, (arI G 400 (upd f_rc e_ln.toNatClampNeg ((p_o <<< (12 &&& 31)) ||| p_a))))] hP hD ?_
    clear hP hD
    intro hP hD
    refine lv_aload_n hx hb dX4_emit_29 rfl (lv_at hl 0 rfl) ?_
    refine lv_dup hx hb dX4_emit_30 rfl ?_
    refine va_get (D := G.1) (ci := 4) (v := .int e_ln) (C := RX4) (T := TX4) (N := 8) hx hb hts inG_X4 hown hK hP 0 rfl rfl 4 (by decide +kernel) (hts _ fl_X4_36) (fun _ h9 => h9) rfl dX4_emit_31 ?_
    refine lv_iconst (v := 1) hx hb dX4_emit_34 (by decide +kernel) ?_
    refine W.eq (g2 := F0 m 35 ls [.int 1, .int e_ln, .ref a_r]) rfl ?_
    refine lv_iadd hx hb dX4_emit_35 ?_
    have t_2 : (e_ln + 1).toInt = e_ln.toInt + 1 := g5_iadd (a := e_ln.toInt) (b := 1) (by rfl) (by decide +kernel) (by omega) (by omega)
    refine va_put (D := G.1) (ci := 4) (v := .int (e_ln + 1)) (ty := .int) (C := RX4) (T := TX4) (N := 8) hx hb hts inG_X4 tyX4 tyX4_ok nmX4 hown hK hP hD hS 0 rfl rfl 4 (by decide +kernel) (hts _ fl_X4_36) (fun _ h9 => h9) rfl (by decide +kernel) rfl rfl (Nat.le_of_ble_eq_true rfl) dX4_emit_36 ?_
    clear hP hD hS
    intro H locs hP hD hS
    refine g5_rs [(a_r, (oc4 a_tk a_rh a_rs a_rc (e_ln + 1) e_pa e_at e_fp)), (a_rc, (arI G 400 (upd f_rc e_ln.toNatClampNeg ((p_o <<< (12 &&& 31)) ||| p_a))))] hP hD ?_
    clear hP hD
    intro hP hD
    refine lv_aload_n hx hb dX4_emit_39 rfl (lv_at hl 0 rfl) ?_
    refine va_get (D := G.1) (ci := 4) (v := .int (e_ln + 1)) (C := RX4) (T := TX4) (N := 8) hx hb hts inG_X4 hown hK hP 0 rfl rfl 4 (by decide +kernel) (hts _ fl_X4_36) (fun _ h9 => h9) rfl dX4_emit_40 ?_
    refine lv_iconst (v := 1) hx hb dX4_emit_43 (by decide +kernel) ?_
    refine W.eq (g2 := F0 m 44 ls [.int 1, .int (e_ln + 1)]) rfl ?_
    refine lv_isub hx hb dX4_emit_44 ?_
    have t_3 : ((e_ln + 1) - 1).toInt = (e_ln + 1).toInt - 1 := g5_isub (a := (e_ln + 1).toInt) (b := 1) (by rfl) (by decide +kernel) (by omega) (by omega)
    exact W.iret (v := ((e_ln + 1) - 1)) hx hb hr (fun t ht hW => ⟨⟨((e_ln + 1) - 1), [(a_r, (oc4 a_tk a_rh a_rs a_rc (e_ln + 1) e_pa e_at e_fp)), (a_rc, (arI G 400 (upd f_rc e_ln.toNatClampNeg ((p_o <<< (12 &&& 31)) ||| p_a))))], rfl, ⟨((e_ln + 1) - 1), (e_ln + 1), (upd f_rc e_ln.toNatClampNeg ((p_o <<< (12 &&& 31)) ||| p_a)), ⟨by omega, by omega⟩, by omega, by omega, ⟨by omega, by omega⟩, cdi_emit e_cd (by omega) (by omega) e_v, opk_emit (by omega), fun _ => ⟨by omega, by unfold upd; rw [if_pos (by rw [g5_clamp, g5_clamp]; omega)]⟩, rfl, rfl, rfl⟩, by rw [ht]; exact hP.sub [0, 1] rfl, hD.sub [0, 1] (by decide +kernel) rfl⟩, hS.F ht⟩) hS.2.2 dX4_emit_45
  ·
    have i_1 : e_ln.toInt ≥ 400 := g5_ltN (a := e_ln.toInt) (b := 400) rfl (by decide +kernel) c_1
    omega
set_option maxHeartbeats 4000000 in
set_option maxRecDepth 100000 in
theorem r_partX (fr lo : Nat) (p_d : Int32) (h_p_d : 0 ≤ p_d.toInt ∧ p_d.toInt ≤ 8) (h_sum : ∀ x : Int32, x.toInt = p_d.toInt + 1 → p_d.toInt < 8 → ∀ (l : Launch) (G : g5_G) (a_r a_tk a_kd a_nm a_rc a_rh a_rs a_pl : Nat) (sz : Nat) (e_ln : Int32) (e_pa : Int32) (e_at : Int32) (e_fp : Int32) (f_kd : Nat → Int32) (f_nm : Nat → Int32) (f_rc : Nat → Int32) (g_x : Nat → Int32) (g_n : Nat) (g_T : Nat) (h_e_ln : 0 ≤ e_ln.toInt ∧ e_ln.toInt ≤ 400) (h_e_pa : 0 ≤ e_pa.toInt ∧ e_pa.toInt ≤ 50) (h_e_at : 0 ≤ e_at.toInt ∧ e_at.toInt ≤ 401) (e_tk : TOKI f_kd f_nm) (e_cd : CDI f_rc e_ln.toInt) (e_by : byOK g_x) (e_kr : TKR f_kd f_nm g_x g_n g_T) (e_aT : e_at.toInt ≤ (g_T : Int)) (e_la : e_ln.toInt ≤ e_at.toInt) (e_lv : lvC f_rc e_ln.toInt.toNat = e_pa.toInt.toNat), Met l yX4_readSum (wsG yX4_readSum cX4_readSum 6 (some .boolean)) ({ frames := fr + 0, cells := 0, slots := 0, locals := lo + 0 }) (va_Pc [.ref a_r, .int x] (g5_P G [(a_r, (oc4 a_tk a_rh a_rs a_rc e_ln e_pa e_at e_fp)), (a_tk, (oc8 a_kd a_nm a_pl)), (a_kd, (arI G 401 f_kd)), (a_nm, (arI G 401 f_nm)), (a_rc, (arI G 400 f_rc))] sz)) (va_Qi (fun (r : Int32) (u : va_W) => (∃ (o_ln : Int32) (o_pa : Int32) (o_at : Int32) (o_rc : Nat → Int32), (e_ln.toInt ≤ o_ln.toInt ∧ o_ln.toInt ≤ 400) ∧ (0 ≤ o_at.toInt ∧ o_at.toInt ≤ 401) ∧ (0 ≤ o_pa.toInt ∧ o_pa.toInt ≤ 50) ∧ (CDI o_rc o_ln.toInt) ∧ (OPK f_rc o_rc e_ln.toInt) ∧ (∃ d : DS, (smF (KDT g_x g_n) (NMT g_x g_n) x) e_at.toInt.toNat e_pa.toInt.toNat = (o_at.toInt.toNat, o_pa.toInt.toNat, some d) ∧ KCC f_rc o_rc e_ln.toInt ∧ MCC o_rc e_ln.toInt.toNat o_ln.toInt.toNat d ∧ lvC o_rc o_ln.toInt.toNat = o_pa.toInt.toNat) ∧ (o_at.toInt ≤ (g_T : Int) ∧ e_at.toInt < o_at.toInt ∧ o_ln.toInt + e_at.toInt ≤ e_ln.toInt + o_at.toInt) ∧ (r = 1) ∧ (u = [(a_r, (oc4 a_tk a_rh a_rs a_rc o_ln o_pa o_at e_fp)), (a_tk, (oc8 a_kd a_nm a_pl)), (a_kd, (arI G 401 f_kd)), (a_nm, (arI G 401 f_nm)), (a_rc, (arI G 400 o_rc))])) ∨ (∃ (o_ln : Int32) (o_pa : Int32) (o_at : Int32) (o_rc : Nat → Int32), (e_ln.toInt ≤ o_ln.toInt ∧ o_ln.toInt ≤ 400) ∧ (0 ≤ o_at.toInt ∧ o_at.toInt ≤ 401) ∧ (0 ≤ o_pa.toInt ∧ o_pa.toInt ≤ 50) ∧ (CDI o_rc o_ln.toInt) ∧ (OPK f_rc o_rc e_ln.toInt) ∧ (∃ q : Nat, (smF (KDT g_x g_n) (NMT g_x g_n) x) e_at.toInt.toNat e_pa.toInt.toNat = (o_at.toInt.toNat, q, none)) ∧ (o_at.toInt ≤ (g_T : Int)) ∧ (r = 0) ∧ (u = [(a_r, (oc4 a_tk a_rh a_rs a_rc o_ln o_pa o_at e_fp)), (a_tk, (oc8 a_kd a_nm a_pl)), (a_kd, (arI G 401 f_kd)), (a_nm, (arI G 401 f_nm)), (a_rc, (arI G 400 o_rc))]))) (g5_B G (va_A [(a_r, (oc4 a_tk a_rh a_rs a_rc e_ln e_pa e_at e_fp)), (a_tk, (oc8 a_kd a_nm a_pl)), (a_kd, (arI G 401 f_kd)), (a_nm, (arI G 401 f_nm)), (a_rc, (arI G 400 f_rc))] sz)) (va_A [(a_r, (oc4 a_tk a_rh a_rs a_rc e_ln e_pa e_at e_fp)), (a_tk, (oc8 a_kd a_nm a_pl)), (a_kd, (arI G 401 f_kd)), (a_nm, (arI G 401 f_nm)), (a_rc, (arI G 400 f_rc))] sz)) 0 0 (va_A [(a_r, (oc4 a_tk a_rh a_rs a_rc e_ln e_pa e_at e_fp)), (a_tk, (oc8 a_kd a_nm a_pl)), (a_kd, (arI G 401 f_kd)), (a_nm, (arI G 401 f_nm)), (a_rc, (arI G 400 f_rc))] sz)) (l : Launch) (G : g5_G) (a_r a_tk a_kd a_nm a_rc a_rh a_rs a_pl : Nat) (sz : Nat) (e_ln : Int32) (e_pa : Int32) (e_at : Int32) (e_fp : Int32) (f_kd : Nat → Int32) (f_nm : Nat → Int32) (f_rc : Nat → Int32) (g_x : Nat → Int32) (g_n : Nat) (g_T : Nat) (h_e_ln : 0 ≤ e_ln.toInt ∧ e_ln.toInt ≤ 400) (h_e_pa : 0 ≤ e_pa.toInt ∧ e_pa.toInt ≤ 50) (h_e_at : 0 ≤ e_at.toInt ∧ e_at.toInt ≤ 401) (e_tk : TOKI f_kd f_nm) (e_cd : CDI f_rc e_ln.toInt) (e_by : byOK g_x) (e_kr : TKR f_kd f_nm g_x g_n g_T) (e_aT : e_at.toInt ≤ (g_T : Int)) (e_la : e_ln.toInt ≤ e_at.toInt) (e_lv : lvC f_rc e_ln.toInt.toNat = e_pa.toInt.toNat) : Met l yX4_readPart (wsG yX4_readPart cX4_readPart 4 (some .boolean)) ({ frames := fr + 1, cells := 0, slots := 0, locals := lo + 25 }) (va_Pc [.ref a_r, .int p_d] (g5_P G [(a_r, (oc4 a_tk a_rh a_rs a_rc e_ln e_pa e_at e_fp)), (a_tk, (oc8 a_kd a_nm a_pl)), (a_kd, (arI G 401 f_kd)), (a_nm, (arI G 401 f_nm)), (a_rc, (arI G 400 f_rc))] sz)) (va_Qi (fun (r : Int32) (u : va_W) => (∃ (o_ln : Int32) (o_pa : Int32) (o_at : Int32) (o_rc : Nat → Int32), (e_ln.toInt ≤ o_ln.toInt ∧ o_ln.toInt ≤ 400) ∧ (0 ≤ o_at.toInt ∧ o_at.toInt ≤ 401) ∧ (0 ≤ o_pa.toInt ∧ o_pa.toInt ≤ 50) ∧ (CDI o_rc o_ln.toInt) ∧ (OPK f_rc o_rc e_ln.toInt) ∧ (∃ d : DS, (ptF (KDT g_x g_n) (NMT g_x g_n) p_d) e_at.toInt.toNat e_pa.toInt.toNat = (o_at.toInt.toNat, o_pa.toInt.toNat, some d) ∧ KCC f_rc o_rc e_ln.toInt ∧ MCC o_rc e_ln.toInt.toNat o_ln.toInt.toNat d ∧ lvC o_rc o_ln.toInt.toNat = o_pa.toInt.toNat) ∧ (o_at.toInt ≤ (g_T : Int) ∧ e_at.toInt < o_at.toInt ∧ o_ln.toInt + e_at.toInt ≤ e_ln.toInt + o_at.toInt) ∧ (r = 1) ∧ (u = [(a_r, (oc4 a_tk a_rh a_rs a_rc o_ln o_pa o_at e_fp)), (a_tk, (oc8 a_kd a_nm a_pl)), (a_kd, (arI G 401 f_kd)), (a_nm, (arI G 401 f_nm)), (a_rc, (arI G 400 o_rc))])) ∨ (∃ (o_ln : Int32) (o_pa : Int32) (o_at : Int32) (o_rc : Nat → Int32), (e_ln.toInt ≤ o_ln.toInt ∧ o_ln.toInt ≤ 400) ∧ (0 ≤ o_at.toInt ∧ o_at.toInt ≤ 401) ∧ (0 ≤ o_pa.toInt ∧ o_pa.toInt ≤ 50) ∧ (CDI o_rc o_ln.toInt) ∧ (OPK f_rc o_rc e_ln.toInt) ∧ (∃ q : Nat, (ptF (KDT g_x g_n) (NMT g_x g_n) p_d) e_at.toInt.toNat e_pa.toInt.toNat = (o_at.toInt.toNat, q, none)) ∧ (o_at.toInt ≤ (g_T : Int)) ∧ (r = 0) ∧ (u = [(a_r, (oc4 a_tk a_rh a_rs a_rc o_ln o_pa o_at e_fp)), (a_tk, (oc8 a_kd a_nm a_pl)), (a_kd, (arI G 401 f_kd)), (a_nm, (arI G 401 f_nm)), (a_rc, (arI G 400 o_rc))]))) (g5_B G (va_A [(a_r, (oc4 a_tk a_rh a_rs a_rc e_ln e_pa e_at e_fp)), (a_tk, (oc8 a_kd a_nm a_pl)), (a_kd, (arI G 401 f_kd)), (a_nm, (arI G 401 f_nm)), (a_rc, (arI G 400 f_rc))] sz)) (va_A [(a_r, (oc4 a_tk a_rh a_rs a_rc e_ln e_pa e_at e_fp)), (a_tk, (oc8 a_kd a_nm a_pl)), (a_kd, (arI G 401 f_kd)), (a_nm, (arI G 401 f_nm)), (a_rc, (arI G 400 f_rc))] sz)) 0 0 (va_A [(a_r, (oc4 a_tk a_rh a_rs a_rc e_ln e_pa e_at e_fp)), (a_tk, (oc8 a_kd a_nm a_pl)), (a_kd, (arI G 401 f_kd)), (a_nm, (arI G 401 f_nm)), (a_rc, (arI G 400 f_rc))] sz) := by
  refine Met.ofW (cc := cX4_readPart) (maxL := 4) (ret := (some .boolean)) (by decide +kernel) rfl ?_
  intro p e s m args below meth c s₁ B hml hv
  obtain ⟨rfl, hsz, hP, hK, hD0, hN, hT⟩ := hv
  have hx := B.exec
  have hb := B.bytes
  have hr := B.returns
  have hts : ∀ w ∈ tblG, w.before _ s = true := fun w h => atoms_spec (ws := (wsG yX4_readPart cX4_readPart 4 (some .boolean))) B.pre w (List.mem_cons_of_mem _ h)
  have hown : s.vm.findClass RX4 = some m.cls := findClass_of_methodNamed B.named
  have hlocks := B.notSynchronized
  subst hsz
  have hD := hD0.self (sz := s.heap.size)
  generalize hAe : va_A [(a_r, (oc4 a_tk a_rh a_rs a_rc e_ln e_pa e_at e_fp)), (a_tk, (oc8 a_kd a_nm a_pl)), (a_kd, (arI G 401 f_kd)), (a_nm, (arI G 401 f_nm)), (a_rc, (arI G 400 f_rc))] s.heap.size = A at hD hT ⊢
  have hA : ∀ q : Nat, s.heap.size ≤ q → A q := fun q h => by rw [← hAe]; exact Or.inr h
  have hS : va_S A s.heap s.heap [] := va_S.rf
  replace hP : va_P G.1 vwCl [(a_r, (oc4 a_tk a_rh a_rs a_rc e_ln e_pa e_at e_fp)), (a_tk, (oc8 a_kd a_nm a_pl)), (a_kd, (arI G 401 f_kd)), (a_nm, (arI G 401 f_nm)), (a_rc, (arI G 400 f_rc))] s.heap := hP
  have hl := lv_entry ([.ref a_r, .int p_d]) (n := 4) (Nat.le_of_ble_eq_true rfl)
  rw [lg_entry_eq]
  generalize (lg_sl ([.ref a_r, .int p_d]) ++ List.replicate (4 - (lg_sl ([.ref a_r, .int p_d])).length) Slot.unset).toArray = ls at hl ⊢
  replace hl : lv_has ls 4 [(0, .ref a_r), (1, .int p_d)] := hl
  have hT4 : (g_T : Int) ≤ 400 := by have z9 := e_kr.2.2.2; omega
  have hK0 : (f_kd e_at.toNatClampNeg).toInt = KDT g_x g_n e_at.toInt.toNat := tkr_at e_kr (by omega) (by omega)
  refine lv_aload_n hx hb dX4_readPart_0 rfl (lv_at hl 0 rfl) ?_
  refine lv_bipush (v := 91) hx hb dX4_readPart_1 (by decide +kernel) ?_
  obtain ⟨hPc, hDc, hFc⟩ := g5_sub3 (wc := [(a_r, (oc4 a_tk a_rh a_rs a_rc e_ln e_pa e_at e_fp)), (a_tk, (oc8 a_kd a_nm a_pl)), (a_kd, (arI G 401 f_kd))]) hP hD hS hA [0, 1, 2] (by decide +kernel) rfl
  refine va_calli (va_runV (As := [.int 91]) (rest := []) ⟨hx, hb, hml, hown, hts⟩ (r_isNextX91 l G a_r a_tk a_kd a_rh a_rs a_rc a_nm a_pl s.heap.size e_ln e_pa e_at e_fp f_kd h_e_ln h_e_pa h_e_at (by omega)) (cwV 1 hts gV_X4_49 rfl rfl rfl hv_X4_isNext ⟨by simp only [headSpec]; omega, by simp only [headSpec]; omega⟩) (g5_preV hPc hK hDc hN hT hS hFc (ci := 4) (q0 := 0) rfl rfl) rfl rfl hl.1 rfl (lv_room (Nat.le_of_ble_eq_true rfl)) dX4_readPart_3 ⟨Nat.le_of_ble_eq_true rfl, Nat.le_of_ble_eq_true rfl⟩) hS (fun q _ h => hFc q h) hFc (fun r u t H locs ht hvm hw hB hz1 hk1 hS => ?_)
  obtain ⟨hP1, hD1⟩ := hB
  have hP1 := g5_ht ht hP1
  rcases hw with ⟨(i_1 : (f_kd e_at.toNatClampNeg).toInt = 91), rfl, rfl⟩ | ⟨(i_2 : gNe (f_kd e_at.toNatClampNeg).toInt 91), rfl, rfl⟩
  ·
    have hJ9 := va_join (wr := [(a_nm, (arI G 401 f_nm)), (a_rc, (arI G 400 f_rc))]) hP hD [0, 1, 2] [3, 4] rfl rfl (by decide +kernel) (by decide +kernel) hk1 hFc hP1 hD1
    clear hP hD hPc hDc hFc ht hvm hz1 hk1 hP1 hD1
    obtain ⟨hP, hD⟩ := hJ9
    refine g5_rs [(a_nm, (arI G 401 f_nm)), (a_rc, (arI G 400 f_rc)), (a_r, (oc4 a_tk a_rh a_rs a_rc e_ln e_pa e_at e_fp)), (a_tk, (oc8 a_kd a_nm a_pl)), (a_kd, (arI G 401 f_kd))] hP hD ?_
    clear hP hD
    intro hP hD
    refine lv_if_eq (tgt := 49) hx hb dX4_readPart_6 (by decide +kernel) (fun c_3 => ?_) (fun c_3 => ?_)
    ·
      exact absurd c_3 (by decide +kernel)
    ·
      refine lv_iload_n hx hb dX4_readPart_9 rfl (lv_at hl 1 rfl) ?_
      refine lv_bipush (v := 8) hx hb dX4_readPart_10 (by decide +kernel) ?_
      refine lv_icmp_ge (tgt := 47) hx hb dX4_readPart_12 (by decide +kernel) (fun c_4 => ?_) (fun c_4 => ?_)
      ·
        have i_4 : p_d.toInt ≥ 8 := g5_ge (a := p_d.toInt) (b := 8) rfl (by decide +kernel) c_4
        refine lv_iconst (v := 0) hx hb dX4_readPart_47 (by decide +kernel) ?_
        exact W.zret (v := 0) hx hb hr rfl (fun t ht hW => ⟨⟨0, [(a_r, (oc4 a_tk a_rh a_rs a_rc e_ln e_pa e_at e_fp)), (a_tk, (oc8 a_kd a_nm a_pl)), (a_kd, (arI G 401 f_kd)), (a_nm, (arI G 401 f_nm)), (a_rc, (arI G 400 f_rc))], rfl, Or.inr (⟨e_ln, e_pa, e_at, f_rc, ⟨by omega, by omega⟩, h_e_at, h_e_pa, e_cd, opk_refl, ⟨_, ow_deep (hK0.symm.trans i_1) (by omega)⟩, by omega, rfl, rfl⟩), by rw [ht]; exact hP.sub [2, 3, 4, 0, 1] rfl, hD.sub [2, 3, 4, 0, 1] (by decide +kernel) rfl⟩, hS.F ht⟩) hS.2.2 dX4_readPart_48
      ·
        have i_4 : p_d.toInt < 8 := g5_geN (a := p_d.toInt) (b := 8) rfl (by decide +kernel) c_4
        refine lv_aload_n hx hb dX4_readPart_15 rfl (lv_at hl 0 rfl) ?_
        refine lv_bipush (v := 91) hx hb dX4_readPart_16 (by decide +kernel) ?_
        obtain ⟨hPc, hDc, hFc⟩ := g5_sub3 (wc := [(a_r, (oc4 a_tk a_rh a_rs a_rc e_ln e_pa e_at e_fp)), (a_tk, (oc8 a_kd a_nm a_pl)), (a_kd, (arI G 401 f_kd))]) hP hD hS hA [2, 3, 4] (by decide +kernel) rfl
        refine va_calli (va_runV (As := [.int 91]) (rest := []) ⟨hx, hb, hml, hown, hts⟩ (r_passedX91 l G a_r a_tk a_kd a_rh a_rs a_rc a_nm a_pl H.size e_ln e_pa e_at e_fp f_kd h_e_ln h_e_pa h_e_at (by omega)) (cwV 1 hts gV_X4_63 rfl rfl rfl hv_X4_passed ⟨by simp only [headSpec]; omega, by simp only [headSpec]; omega⟩) (g5_preV hPc hK hDc hN hT hS hFc (ci := 4) (q0 := 0) rfl rfl) rfl rfl hl.1 rfl (lv_room (Nat.le_of_ble_eq_true rfl)) dX4_readPart_18 ⟨Nat.le_of_ble_eq_true rfl, Nat.le_of_ble_eq_true rfl⟩) hS (fun q _ h => hFc q h) hFc (fun r u t H locs ht hvm hw hB hz1 hk1 hS => ?_)
        obtain ⟨hP1, hD1⟩ := hB
        have hP1 := g5_ht ht hP1
        rcases hw with ⟨z8, (i_5 : 0 ≤ z8.toInt ∧ z8.toInt ≤ 401), (i_6 : z8.toInt = e_at.toInt + 1), (i_7 : (f_kd e_at.toNatClampNeg).toInt = 91), rfl, rfl⟩ | ⟨z12, (i_9 : 0 ≤ z12.toInt ∧ z12.toInt ≤ 401), (i_10 : z12.toInt = e_at.toInt), (i_11 : gNe (f_kd e_at.toNatClampNeg).toInt 91), rfl, rfl⟩
        ·
          have hJ9 := va_join (wr := [(a_nm, (arI G 401 f_nm)), (a_rc, (arI G 400 f_rc))]) hP hD [2, 3, 4] [0, 1] rfl rfl (by decide +kernel) (by decide +kernel) hk1 hFc hP1 hD1
          clear hP hD hPc hDc hFc ht hvm hz1 hk1 hP1 hD1
          obtain ⟨hP, hD⟩ := hJ9
          refine g5_rs [(a_nm, (arI G 401 f_nm)), (a_rc, (arI G 400 f_rc)), (a_r, (oc4 a_tk a_rh a_rs a_rc e_ln e_pa z8 e_fp)), (a_tk, (oc8 a_kd a_nm a_pl)), (a_kd, (arI G 401 f_kd))] hP hD ?_
          clear hP hD
          intro hP hD
          have hL_13 : e_at.toInt < (g_T : Int) := tkr_ltI e_kr (by omega) (by omega) i_7 (by decide +kernel)
          refine lv_if_eq (tgt := 47) hx hb dX4_readPart_21 (by decide +kernel) (fun c_14 => ?_) (fun c_14 => ?_)
          ·
            exact absurd c_14 (by decide +kernel)
          ·
            refine lv_aload_n hx hb dX4_readPart_24 rfl (lv_at hl 0 rfl) ?_
            refine lv_iload_n hx hb dX4_readPart_25 rfl (lv_at hl 1 rfl) ?_
            refine lv_iconst (v := 1) hx hb dX4_readPart_26 (by decide +kernel) ?_
            refine lv_iadd hx hb dX4_readPart_27 ?_
            have t_15 : (p_d + 1).toInt = p_d.toInt + 1 := g5_iadd (a := p_d.toInt) (b := 1) (by rfl) (by decide +kernel) (by omega) (by omega)
            refine W.eq (g2 := F0 m 28 ls [.int (p_d + 1), .ref a_r]) rfl ?_
            obtain ⟨hPc, hDc, hFc⟩ := g5_sub3 (wc := [(a_r, (oc4 a_tk a_rh a_rs a_rc e_ln e_pa z8 e_fp)), (a_tk, (oc8 a_kd a_nm a_pl)), (a_kd, (arI G 401 f_kd)), (a_nm, (arI G 401 f_nm)), (a_rc, (arI G 400 f_rc))]) hP hD hS hA [2, 3, 4, 0, 1] (by decide +kernel) rfl
            refine va_calli (va_runV (As := [.int (p_d + 1)]) (rest := []) ⟨hx, hb, hml, hown, hts⟩ ((h_sum (p_d + 1) (by omega) (by omega)) l G a_r a_tk a_kd a_nm a_rc a_rh a_rs a_pl H.size e_ln e_pa z8 e_fp f_kd f_nm f_rc g_x g_n g_T h_e_ln h_e_pa i_5 (e_tk) (e_cd) (e_by) (e_kr) (by omega) (by omega) (e_lv)) (cwV 1 hts gV_X4_73 rfl rfl rfl hv_X4_readSum ⟨by simp only [headSpec]; omega, by simp only [headSpec]; omega⟩) (g5_preV hPc hK hDc hN hT hS hFc (ci := 4) (q0 := 0) rfl rfl) rfl rfl hl.1 rfl (lv_room (Nat.le_of_ble_eq_true rfl)) dX4_readPart_28 ⟨Nat.le_of_ble_eq_true rfl, Nat.le_of_ble_eq_true rfl⟩) hS (fun q _ h => hFc q h) hFc (fun r u t H locs ht hvm hw hB hz1 hk1 hS => ?_)
            obtain ⟨hP1, hD1⟩ := hB
            have hP1 := g5_ht ht hP1
            rcases hw with ⟨z23, z24, z25, z26, (i_16 : e_ln.toInt ≤ z23.toInt ∧ z23.toInt ≤ 400), (i_17 : 0 ≤ z25.toInt ∧ z25.toInt ≤ 401), (i_18 : 0 ≤ z24.toInt ∧ z24.toInt ≤ 50), (i_19 : CDI z26 z23.toInt), (i_20 : OPK f_rc z26 e_ln.toInt), (i_21 : ∃ d : DS, (smF (KDT g_x g_n) (NMT g_x g_n) (p_d + 1)) z8.toInt.toNat e_pa.toInt.toNat = (z25.toInt.toNat, z24.toInt.toNat, some d) ∧ KCC f_rc z26 e_ln.toInt ∧ MCC z26 e_ln.toInt.toNat z23.toInt.toNat d ∧ lvC z26 z23.toInt.toNat = z24.toInt.toNat), (i_22 : z25.toInt ≤ (g_T : Int) ∧ z8.toInt < z25.toInt ∧ z23.toInt + z8.toInt ≤ e_ln.toInt + z25.toInt), rfl, rfl⟩ | ⟨z34, z35, z36, z37, (i_27 : e_ln.toInt ≤ z34.toInt ∧ z34.toInt ≤ 400), (i_28 : 0 ≤ z36.toInt ∧ z36.toInt ≤ 401), (i_29 : 0 ≤ z35.toInt ∧ z35.toInt ≤ 50), (i_30 : CDI z37 z34.toInt), (i_31 : OPK f_rc z37 e_ln.toInt), (i_32 : ∃ q : Nat, (smF (KDT g_x g_n) (NMT g_x g_n) (p_d + 1)) z8.toInt.toNat e_pa.toInt.toNat = (z36.toInt.toNat, q, none)), (i_33 : z36.toInt ≤ (g_T : Int)), rfl, rfl⟩
            ·
              have hJ9 := va_join (wr := []) hP hD [2, 3, 4, 0, 1] [] rfl rfl (by decide +kernel) (by decide +kernel) hk1 hFc hP1 hD1
              clear hP hD hPc hDc hFc ht hvm hz1 hk1 hP1 hD1
              obtain ⟨hP, hD⟩ := hJ9
              refine g5_rs [(a_r, (oc4 a_tk a_rh a_rs a_rc z23 z24 z25 e_fp)), (a_tk, (oc8 a_kd a_nm a_pl)), (a_kd, (arI G 401 f_kd)), (a_nm, (arI G 401 f_nm)), (a_rc, (arI G 400 z26))] hP hD ?_
              clear hP hD
              intro hP hD
              obtain ⟨dd38, hd38, hc38, hm38, hv38⟩ := i_21
              have hK_39 : (f_kd z25.toNatClampNeg).toInt = KDT g_x g_n z25.toInt.toNat := tkr_at e_kr (by omega) (by omega)
              refine lv_if_eq (tgt := 47) hx hb dX4_readPart_31 (by decide +kernel) (fun c_40 => ?_) (fun c_40 => ?_)
              ·
                exact absurd c_40 (by decide +kernel)
              ·
                refine lv_aload_n hx hb dX4_readPart_34 rfl (lv_at hl 0 rfl) ?_
                refine lv_bipush (v := 93) hx hb dX4_readPart_35 (by decide +kernel) ?_
                obtain ⟨hPc, hDc, hFc⟩ := g5_sub3 (wc := [(a_r, (oc4 a_tk a_rh a_rs a_rc z23 z24 z25 e_fp)), (a_tk, (oc8 a_kd a_nm a_pl)), (a_kd, (arI G 401 f_kd))]) hP hD hS hA [0, 1, 2] (by decide +kernel) rfl
                refine va_calli (va_runV (As := [.int 93]) (rest := []) ⟨hx, hb, hml, hown, hts⟩ (r_passedX93 l G a_r a_tk a_kd a_rh a_rs a_rc a_nm a_pl H.size z23 z24 z25 e_fp f_kd ⟨by omega, by omega⟩ i_18 i_17 (by omega)) (cwV 1 hts gV_X4_63 rfl rfl rfl hv_X4_passed ⟨by simp only [headSpec]; omega, by simp only [headSpec]; omega⟩) (g5_preV hPc hK hDc hN hT hS hFc (ci := 4) (q0 := 0) rfl rfl) rfl rfl hl.1 rfl (lv_room (Nat.le_of_ble_eq_true rfl)) dX4_readPart_37 ⟨Nat.le_of_ble_eq_true rfl, Nat.le_of_ble_eq_true rfl⟩) hS (fun q _ h => hFc q h) hFc (fun r u t H locs ht hvm hw hB hz1 hk1 hS => ?_)
                obtain ⟨hP1, hD1⟩ := hB
                have hP1 := g5_ht ht hP1
                rcases hw with ⟨z44, (i_41 : 0 ≤ z44.toInt ∧ z44.toInt ≤ 401), (i_42 : z44.toInt = z25.toInt + 1), (i_43 : (f_kd z25.toNatClampNeg).toInt = 93), rfl, rfl⟩ | ⟨z48, (i_45 : 0 ≤ z48.toInt ∧ z48.toInt ≤ 401), (i_46 : z48.toInt = z25.toInt), (i_47 : gNe (f_kd z25.toNatClampNeg).toInt 93), rfl, rfl⟩
                ·
                  have hJ9 := va_join (wr := [(a_nm, (arI G 401 f_nm)), (a_rc, (arI G 400 z26))]) hP hD [0, 1, 2] [3, 4] rfl rfl (by decide +kernel) (by decide +kernel) hk1 hFc hP1 hD1
                  clear hP hD hPc hDc hFc ht hvm hz1 hk1 hP1 hD1
                  obtain ⟨hP, hD⟩ := hJ9
                  refine g5_rs [(a_nm, (arI G 401 f_nm)), (a_rc, (arI G 400 z26)), (a_r, (oc4 a_tk a_rh a_rs a_rc z23 z24 z44 e_fp)), (a_tk, (oc8 a_kd a_nm a_pl)), (a_kd, (arI G 401 f_kd))] hP hD ?_
                  clear hP hD
                  intro hP hD
                  have hL_49 : z25.toInt < (g_T : Int) := tkr_ltI e_kr (by omega) (by omega) i_43 (by decide +kernel)
                  refine lv_if_eq (tgt := 47) hx hb dX4_readPart_40 (by decide +kernel) (fun c_50 => ?_) (fun c_50 => ?_)
                  ·
                    exact absurd c_50 (by decide +kernel)
                  ·
                    refine lv_iconst (v := 1) hx hb dX4_readPart_43 (by decide +kernel) ?_
                    refine lv_goto (tgt := 48) hx hb dX4_readPart_44 (by decide +kernel) ?_
                    exact W.zret (v := 1) hx hb hr rfl (fun t ht hW => ⟨⟨1, [(a_r, (oc4 a_tk a_rh a_rs a_rc z23 z24 z44 e_fp)), (a_tk, (oc8 a_kd a_nm a_pl)), (a_kd, (arI G 401 f_kd)), (a_nm, (arI G 401 f_nm)), (a_rc, (arI G 400 z26))], rfl, Or.inl (⟨z23, z24, z44, z26, ⟨by omega, by omega⟩, i_41, i_18, i_19, i_20, ⟨dd38, ow_in1 (hK0.symm.trans i_7) h_p_d.1 (by omega) (by omega) (by omega) (by omega) hd38 (hK_39.symm.trans i_43) (by omega) (by omega), hc38, hm38, hv38⟩, by omega, rfl, rfl⟩), by rw [ht]; exact hP.sub [2, 3, 4, 0, 1] rfl, hD.sub [2, 3, 4, 0, 1] (by decide +kernel) rfl⟩, hS.F ht⟩) hS.2.2 dX4_readPart_48
                ·
                  have hJ9 := va_join (wr := [(a_nm, (arI G 401 f_nm)), (a_rc, (arI G 400 z26))]) hP hD [0, 1, 2] [3, 4] rfl rfl (by decide +kernel) (by decide +kernel) hk1 hFc hP1 hD1
                  clear hP hD hPc hDc hFc ht hvm hz1 hk1 hP1 hD1
                  obtain ⟨hP, hD⟩ := hJ9
                  refine g5_rs [(a_nm, (arI G 401 f_nm)), (a_rc, (arI G 400 z26)), (a_r, (oc4 a_tk a_rh a_rs a_rc z23 z24 z48 e_fp)), (a_tk, (oc8 a_kd a_nm a_pl)), (a_kd, (arI G 401 f_kd))] hP hD ?_
                  clear hP hD
                  intro hP hD
                  refine lv_if_eq (tgt := 47) hx hb dX4_readPart_40 (by decide +kernel) (fun c_51 => ?_) (fun c_51 => ?_)
                  ·
                    refine lv_iconst (v := 0) hx hb dX4_readPart_47 (by decide +kernel) ?_
                    exact W.zret (v := 0) hx hb hr rfl (fun t ht hW => ⟨⟨0, [(a_r, (oc4 a_tk a_rh a_rs a_rc z23 z24 z48 e_fp)), (a_tk, (oc8 a_kd a_nm a_pl)), (a_kd, (arI G 401 f_kd)), (a_nm, (arI G 401 f_nm)), (a_rc, (arI G 400 z26))], rfl, Or.inr (⟨z23, z24, z48, z26, ⟨by omega, by omega⟩, i_45, i_18, i_19, i_20, ⟨_, ow_inB (hK0.symm.trans i_7) h_p_d.1 (by omega) (by omega) (by omega) (by omega) hd38 (fun q9 => i_47 (hK_39.trans q9)) (by omega)⟩, by omega, rfl, rfl⟩), by rw [ht]; exact hP.sub [2, 3, 4, 0, 1] rfl, hD.sub [2, 3, 4, 0, 1] (by decide +kernel) rfl⟩, hS.F ht⟩) hS.2.2 dX4_readPart_48
                  ·
                    exact absurd c_51 (by decide +kernel)
            ·
              have hJ9 := va_join (wr := []) hP hD [2, 3, 4, 0, 1] [] rfl rfl (by decide +kernel) (by decide +kernel) hk1 hFc hP1 hD1
              clear hP hD hPc hDc hFc ht hvm hz1 hk1 hP1 hD1
              obtain ⟨hP, hD⟩ := hJ9
              refine g5_rs [(a_r, (oc4 a_tk a_rh a_rs a_rc z34 z35 z36 e_fp)), (a_tk, (oc8 a_kd a_nm a_pl)), (a_kd, (arI G 401 f_kd)), (a_nm, (arI G 401 f_nm)), (a_rc, (arI G 400 z37))] hP hD ?_
              clear hP hD
              intro hP hD
              obtain ⟨qq52, hq52⟩ := i_32
              refine lv_if_eq (tgt := 47) hx hb dX4_readPart_31 (by decide +kernel) (fun c_53 => ?_) (fun c_53 => ?_)
              ·
                refine lv_iconst (v := 0) hx hb dX4_readPart_47 (by decide +kernel) ?_
                exact W.zret (v := 0) hx hb hr rfl (fun t ht hW => ⟨⟨0, [(a_r, (oc4 a_tk a_rh a_rs a_rc z34 z35 z36 e_fp)), (a_tk, (oc8 a_kd a_nm a_pl)), (a_kd, (arI G 401 f_kd)), (a_nm, (arI G 401 f_nm)), (a_rc, (arI G 400 z37))], rfl, Or.inr (⟨z34, z35, z36, z37, ⟨by omega, by omega⟩, i_28, i_29, i_30, i_31, ⟨qq52, ow_in0 (hK0.symm.trans i_7) h_p_d.1 (by omega) (by omega) (by omega) (by omega) hq52⟩, by omega, rfl, rfl⟩), by rw [ht]; exact hP.sub [0, 1, 2, 3, 4] rfl, hD.sub [0, 1, 2, 3, 4] (by decide +kernel) rfl⟩, hS.F ht⟩) hS.2.2 dX4_readPart_48
              ·
                exact absurd c_53 (by decide +kernel)
        ·
          have hJ9 := va_join (wr := [(a_nm, (arI G 401 f_nm)), (a_rc, (arI G 400 f_rc))]) hP hD [2, 3, 4] [0, 1] rfl rfl (by decide +kernel) (by decide +kernel) hk1 hFc hP1 hD1
          clear hP hD hPc hDc hFc ht hvm hz1 hk1 hP1 hD1
          obtain ⟨hP, hD⟩ := hJ9
          refine g5_rs [(a_nm, (arI G 401 f_nm)), (a_rc, (arI G 400 f_rc)), (a_r, (oc4 a_tk a_rh a_rs a_rc e_ln e_pa z12 e_fp)), (a_tk, (oc8 a_kd a_nm a_pl)), (a_kd, (arI G 401 f_kd))] hP hD ?_
          clear hP hD
          intro hP hD
          refine lv_if_eq (tgt := 47) hx hb dX4_readPart_21 (by decide +kernel) (fun c_54 => ?_) (fun c_54 => ?_)
          ·
            refine lv_iconst (v := 0) hx hb dX4_readPart_47 (by decide +kernel) ?_
            exact W.zret (v := 0) hx hb hr rfl (fun t ht hW => ⟨⟨0, [(a_r, (oc4 a_tk a_rh a_rs a_rc e_ln e_pa z12 e_fp)), (a_tk, (oc8 a_kd a_nm a_pl)), (a_kd, (arI G 401 f_kd)), (a_nm, (arI G 401 f_nm)), (a_rc, (arI G 400 f_rc))], rfl, Or.inr (⟨e_ln, e_pa, z12, f_rc, ⟨by omega, by omega⟩, i_9, h_e_pa, e_cd, opk_refl, absurd i_1 i_11, by omega, rfl, rfl⟩), by rw [ht]; exact hP.sub [2, 3, 4, 0, 1] rfl, hD.sub [2, 3, 4, 0, 1] (by decide +kernel) rfl⟩, hS.F ht⟩) hS.2.2 dX4_readPart_48
          ·
            exact absurd c_54 (by decide +kernel)
  ·
    have hJ9 := va_join (wr := [(a_nm, (arI G 401 f_nm)), (a_rc, (arI G 400 f_rc))]) hP hD [0, 1, 2] [3, 4] rfl rfl (by decide +kernel) (by decide +kernel) hk1 hFc hP1 hD1
    clear hP hD hPc hDc hFc ht hvm hz1 hk1 hP1 hD1
    obtain ⟨hP, hD⟩ := hJ9
    refine g5_rs [(a_nm, (arI G 401 f_nm)), (a_rc, (arI G 400 f_rc)), (a_r, (oc4 a_tk a_rh a_rs a_rc e_ln e_pa e_at e_fp)), (a_tk, (oc8 a_kd a_nm a_pl)), (a_kd, (arI G 401 f_kd))] hP hD ?_
    clear hP hD
    intro hP hD
    refine lv_if_eq (tgt := 49) hx hb dX4_readPart_6 (by decide +kernel) (fun c_55 => ?_) (fun c_55 => ?_)
    ·
      refine lv_aload_n hx hb dX4_readPart_49 rfl (lv_at hl 0 rfl) ?_
      refine va_get (D := G.1) (ci := 4) (v := .ref a_tk) (C := RX4) (T := TX4) (N := 8) hx hb hts inG_X4 hown hK hP 2 rfl rfl 0 (by decide +kernel) (hts _ fl_X4_12) (fun _ h9 => h9) rfl dX4_readPart_50 ?_
      refine lv_aload_n hx hb dX4_readPart_53 rfl (lv_at hl 0 rfl) ?_
      refine va_get (D := G.1) (ci := 4) (v := .int e_at) (C := RX4) (T := TX4) (N := 8) hx hb hts inG_X4 hown hK hP 2 rfl rfl 6 (by decide +kernel) (hts _ fl_X4_42) (fun _ h9 => h9) rfl dX4_readPart_54 ?_
      refine W.eq (g2 := F0 m 57 ls [.int e_at, .ref a_tk]) rfl ?_
      obtain ⟨hPc, hDc, hFc⟩ := g5_sub3 (wc := [(a_tk, (oc8 a_kd a_nm a_pl)), (a_kd, (arI G 401 f_kd))]) hP hD hS hA [3, 4] (by decide +kernel) rfl
      refine va_calli (va_runV (As := [.int e_at]) (rest := []) ⟨hx, hb, hml, hown, hts⟩ (k_kindAtX l G a_tk a_kd a_nm a_pl H.size e_at f_kd ⟨by omega, by omega⟩) (cwV 1 hts gV_X4_69 rfl rfl rfl hv_X8_kindAt ⟨by simp only [headSpec]; omega, by simp only [headSpec]; omega⟩) (g5_preV hPc hK hDc hN hT hS hFc (ci := 8) (q0 := 0) rfl rfl) rfl rfl hl.1 rfl (lv_room (Nat.le_of_ble_eq_true rfl)) dX4_readPart_57 ⟨Nat.le_of_ble_eq_true rfl, Nat.le_of_ble_eq_true rfl⟩) hS (fun q _ h => hFc q h) hFc (fun r u t H locs ht hvm hw hB hz1 hk1 hS => ?_)
      obtain ⟨hP1, hD1⟩ := hB
      have hP1 := g5_ht ht hP1
      obtain ⟨z57, (i_56 : z57 = f_kd e_at.toNatClampNeg), y58, rfl⟩ := hw
      have hJ9 := va_join (wr := [(a_nm, (arI G 401 f_nm)), (a_rc, (arI G 400 f_rc)), (a_r, (oc4 a_tk a_rh a_rs a_rc e_ln e_pa e_at e_fp))]) hP hD [3, 4] [0, 1, 2] rfl rfl (by decide +kernel) (by decide +kernel) hk1 hFc hP1 hD1
      clear hP hD hPc hDc hFc ht hvm hz1 hk1 hP1 hD1
      obtain ⟨hP, hD⟩ := hJ9
      refine g5_rs [(a_nm, (arI G 401 f_nm)), (a_rc, (arI G 400 f_rc)), (a_r, (oc4 a_tk a_rh a_rs a_rc e_ln e_pa e_at e_fp)), (a_tk, (oc8 a_kd a_nm a_pl)), (a_kd, (arI G 401 f_kd))] hP hD ?_
      clear hP hD
      intro hP hD
      refine g5_ti (v := z57) y58 ?_
      have hz9 : 0 ≤ z57.toInt ∧ z57.toInt ≤ 302 := by rw [i_56]; exact tkr_rg e_by e_kr (by omega) (by omega)
      have hk9 : KDT g_x g_n e_at.toInt.toNat = z57.toInt := by rw [i_56]; exact hK0.symm
      refine lv_sipush (v := 256) hx hb dX4_readPart_60 (by decide +kernel) ?_
      refine lv_isub hx hb dX4_readPart_63 ?_
      have t_59 : (z57 - 256).toInt = z57.toInt - 256 := g5_isub (a := z57.toInt) (b := 256) (by rfl) (by decide +kernel) (by omega) (by omega)
      refine lv_bipush (v := 8) hx hb dX4_readPart_64 (by decide +kernel) ?_
      refine lv_isub hx hb dX4_readPart_66 ?_
      have t_60 : ((z57 - 256) - 8).toInt = (z57 - 256).toInt - 8 := g5_isub (a := (z57 - 256).toInt) (b := 8) (by rfl) (by decide +kernel) (by omega) (by omega)
      refine W.eq (g2 := F0 m 67 ls [.int ((z57 - 256) - 8)]) rfl ?_
      refine lv_istore_n (lv' := [(2, .int ((z57 - 256) - 8)), (0, .ref a_r), (1, .int p_d)]) hx hb dX4_readPart_67 rfl hl (by decide +kernel) rfl ?_
      clear hl
      intro ls hl
      refine lv_iload_n hx hb dX4_readPart_68 rfl (lv_at hl 0 rfl) ?_
      refine lv_if_lt (tgt := 82) hx hb dX4_readPart_69 (by decide +kernel) (fun c_61 => ?_) (fun c_61 => ?_)
      ·
        have i_61 : ((z57.toInt - 256) - 8) < 0 := by have z := g5_lt (a := ((z57 - 256) - 8).toInt) (b := 0) (by rfl) (by decide +kernel) c_61; omega
        refine lv_iconst (v := 0) hx hb dX4_readPart_82 (by decide +kernel) ?_
        refine lv_istore_n (lv' := [(3, .int 0), (2, .int ((z57 - 256) - 8)), (0, .ref a_r), (1, .int p_d)]) hx hb dX4_readPart_83 rfl hl (by decide +kernel) rfl ?_
        clear hl
        intro ls hl
        refine lv_iload_n hx hb dX4_readPart_84 rfl (lv_at hl 0 rfl) ?_
        refine lv_if_ne (tgt := 98) hx hb dX4_readPart_85 (by decide +kernel) (fun c_62 => ?_) (fun c_62 => ?_)
        ·
          exact absurd c_62 (by decide +kernel)
        ·
          refine lv_aload_n hx hb dX4_readPart_88 rfl (lv_at hl 2 rfl) ?_
          refine lv_sipush (v := 300) hx hb dX4_readPart_89 (by decide +kernel) ?_
          obtain ⟨hPc, hDc, hFc⟩ := g5_sub3 (wc := [(a_r, (oc4 a_tk a_rh a_rs a_rc e_ln e_pa e_at e_fp)), (a_tk, (oc8 a_kd a_nm a_pl)), (a_kd, (arI G 401 f_kd))]) hP hD hS hA [2, 3, 4] (by decide +kernel) rfl
          refine va_calli (va_runV (As := [.int 300]) (rest := []) ⟨hx, hb, hml, hown, hts⟩ (r_isNextX300 l G a_r a_tk a_kd a_rh a_rs a_rc a_nm a_pl H.size e_ln e_pa e_at e_fp f_kd h_e_ln h_e_pa h_e_at (by omega)) (cwV 1 hts gV_X4_49 rfl rfl rfl hv_X4_isNext ⟨by simp only [headSpec]; omega, by simp only [headSpec]; omega⟩) (g5_preV hPc hK hDc hN hT hS hFc (ci := 4) (q0 := 0) rfl rfl) rfl rfl hl.1 rfl (lv_room (Nat.le_of_ble_eq_true rfl)) dX4_readPart_92 ⟨Nat.le_of_ble_eq_true rfl, Nat.le_of_ble_eq_true rfl⟩) hS (fun q _ h => hFc q h) hFc (fun r u t H locs ht hvm hw hB hz1 hk1 hS => ?_)
          obtain ⟨hP1, hD1⟩ := hB
          have hP1 := g5_ht ht hP1
          rcases hw with ⟨(i_63 : (f_kd e_at.toNatClampNeg).toInt = 300), rfl, rfl⟩ | ⟨(i_64 : gNe (f_kd e_at.toNatClampNeg).toInt 300), rfl, rfl⟩
          ·
            have hJ9 := va_join (wr := [(a_nm, (arI G 401 f_nm)), (a_rc, (arI G 400 f_rc))]) hP hD [2, 3, 4] [0, 1] rfl rfl (by decide +kernel) (by decide +kernel) hk1 hFc hP1 hD1
            clear hP hD hPc hDc hFc ht hvm hz1 hk1 hP1 hD1
            obtain ⟨hP, hD⟩ := hJ9
            refine g5_rs [(a_nm, (arI G 401 f_nm)), (a_rc, (arI G 400 f_rc)), (a_r, (oc4 a_tk a_rh a_rs a_rc e_ln e_pa e_at e_fp)), (a_tk, (oc8 a_kd a_nm a_pl)), (a_kd, (arI G 401 f_kd))] hP hD ?_
            clear hP hD
            intro hP hD
            refine lv_if_eq (tgt := 107) hx hb dX4_readPart_95 (by decide +kernel) (fun c_65 => ?_) (fun c_65 => ?_)
            ·
              exact absurd c_65 (by decide +kernel)
            ·
              refine lv_aload_n hx hb dX4_readPart_98 rfl (lv_at hl 2 rfl) ?_
              refine va_get (D := G.1) (ci := 4) (v := .int e_pa) (C := RX4) (T := TX4) (N := 8) hx hb hts inG_X4 hown hK hP 2 rfl rfl 5 (by decide +kernel) (hts _ fl_X4_39) (fun _ h9 => h9) rfl dX4_readPart_99 ?_
              refine lv_bipush (v := 50) hx hb dX4_readPart_102 (by decide +kernel) ?_
              refine lv_icmp_lt (tgt := 109) hx hb dX4_readPart_104 (by decide +kernel) (fun c_66 => ?_) (fun c_66 => ?_)
              ·
                have i_66 : e_pa.toInt < 50 := g5_lt (a := e_pa.toInt) (b := 50) rfl (by decide +kernel) c_66
                have hk8 : KDT g_x g_n e_at.toInt.toNat = 300 ∨ (264 ≤ KDT g_x g_n e_at.toInt.toNat ∧ KDT g_x g_n e_at.toInt.toNat < 272) := by omega
                have hL9 : e_at.toInt < (g_T : Int) := by have q9 := (tkr_lt (i := e_at.toInt.toNat) e_kr (by omega) (by omega)).1; omega
                have hE_67 : f_kd e_at.toNatClampNeg = 300 := Int32.toInt_inj.mp (i_63.trans (by decide +kernel))
                have hn9 : f_nm e_at.toNatClampNeg = NMT g_x g_n e_at.toInt.toNat := tkr_nm e_kr (by omega) (by omega)
                refine lv_aload_n hx hb dX4_readPart_109 rfl (lv_at hl 2 rfl) ?_
                refine lv_iload_n hx hb dX4_readPart_110 rfl (lv_at hl 0 rfl) ?_
                refine lv_if_eq (tgt := 118) hx hb dX4_readPart_111 (by decide +kernel) (fun c_68 => ?_) (fun c_68 => ?_)
                ·
                  refine lv_iconst (v := 0) hx hb dX4_readPart_118 (by decide +kernel) ?_
                  refine lv_iload_n hx hb dX4_readPart_119 rfl (lv_at hl 0 rfl) ?_
                  refine lv_if_eq (tgt := 127) hx hb dX4_readPart_120 (by decide +kernel) (fun c_69 => ?_) (fun c_69 => ?_)
                  ·
                    refine lv_aload_n hx hb dX4_readPart_127 rfl (lv_at hl 2 rfl) ?_
                    refine va_get (D := G.1) (ci := 4) (v := .ref a_tk) (C := RX4) (T := TX4) (N := 8) hx hb hts inG_X4 hown hK hP 2 rfl rfl 0 (by decide +kernel) (hts _ fl_X4_12) (fun _ h9 => h9) rfl dX4_readPart_128 ?_
                    refine va_get (D := G.1) (ci := 8) (v := .ref a_nm) (C := RX8) (T := TX8) (N := 3) hx hb hts inG_X8 hown hK hP 3 rfl rfl 1 (by decide +kernel) (hts _ fl_X4_93) (fun _ h9 => h9) rfl dX4_readPart_131 ?_
                    refine lv_aload_n hx hb dX4_readPart_134 rfl (lv_at hl 2 rfl) ?_
                    refine W.eq (g2 := F0 m 135 ls [.ref a_r, .ref a_nm, .int 0, .ref a_r]) rfl ?_
                    refine va_get (D := G.1) (ci := 4) (v := .int e_at) (C := RX4) (T := TX4) (N := 8) hx hb hts inG_X4 hown hK hP 2 rfl rfl 6 (by decide +kernel) (hts _ fl_X4_42) (fun _ h9 => h9) rfl dX4_readPart_135 ?_
                    refine va_iald hx hb hK hP 0 0 rfl rfl (i := e_at) (vp_in_iff.mpr ⟨by omega, by omega⟩) dX4_readPart_138 ?_
                    obtain ⟨hPc, hDc, hFc⟩ := g5_sub3 (wc := [(a_r, (oc4 a_tk a_rh a_rs a_rc e_ln e_pa e_at e_fp)), (a_rc, (arI G 400 f_rc))]) hP hD hS hA [2, 1] (by decide +kernel) rfl
                    refine va_calli (va_runV (As := [.int 0, .int (f_nm e_at.toNatClampNeg)]) (rest := []) ⟨hx, hb, hml, hown, hts⟩ (r_emitX l G a_r a_rc a_tk a_rh a_rs H.size e_ln e_pa e_at e_fp 0 (f_nm e_at.toNatClampNeg) f_rc h_e_ln h_e_pa h_e_at (e_cd) (wok_num (toki_num e_tk hE_67)) (by omega)) (cwV 2 hts gV_X4_79 rfl rfl rfl hv_X4_emit ⟨by simp only [headSpec]; omega, by simp only [headSpec]; omega⟩) (g5_preV hPc hK hDc hN hT hS hFc (ci := 4) (q0 := 0) rfl rfl) rfl rfl hl.1 rfl (lv_room (Nat.le_of_ble_eq_true rfl)) dX4_readPart_139 ⟨Nat.le_of_ble_eq_true rfl, Nat.le_of_ble_eq_true rfl⟩) hS (fun q _ h => hFc q h) hFc (fun r u t H locs ht hvm hw hB hz1 hk1 hS => ?_)
                    obtain ⟨hP1, hD1⟩ := hB
                    have hP1 := g5_ht ht hP1
                    obtain ⟨z78, z79, z80, (i_70 : 0 ≤ z78.toInt ∧ z78.toInt ≤ 399), (i_71 : z78.toInt = e_ln.toInt), (i_72 : z79.toInt = e_ln.toInt + 1), (i_73 : e_ln.toInt ≤ z79.toInt ∧ z79.toInt ≤ 400), (i_74 : CDI z80 z79.toInt), (i_75 : OPK f_rc z80 e_ln.toInt), (i_76 : 0 ≤ z78.toInt → z78.toInt < z79.toInt ∧ z80 z78.toNatClampNeg = (((0 : Int32) <<< (12 &&& 31)) ||| (f_nm e_at.toNatClampNeg))), (i_77 : z80 = upd f_rc e_ln.toNatClampNeg (((0 : Int32) <<< (12 &&& 31)) ||| (f_nm e_at.toNatClampNeg))), y81, rfl⟩ := hw
                    have hJ9 := va_join (wr := [(a_nm, (arI G 401 f_nm)), (a_tk, (oc8 a_kd a_nm a_pl)), (a_kd, (arI G 401 f_kd))]) hP hD [2, 1] [0, 3, 4] rfl rfl (by decide +kernel) (by decide +kernel) hk1 hFc hP1 hD1
                    clear hP hD hPc hDc hFc ht hvm hz1 hk1 hP1 hD1
                    obtain ⟨hP, hD⟩ := hJ9
                    refine g5_rs [(a_nm, (arI G 401 f_nm)), (a_tk, (oc8 a_kd a_nm a_pl)), (a_kd, (arI G 401 f_kd)), (a_r, (oc4 a_tk a_rh a_rs a_rc z79 e_pa e_at e_fp)), (a_rc, (arI G 400 z80))] hP hD ?_
                    clear hP hD
                    intro hP hD
                    refine g5_ti (v := z78) y81 ?_
                    refine lv_pop hx hb dX4_readPart_142 rfl ?_
                    refine lv_aload_n hx hb dX4_readPart_143 rfl (lv_at hl 2 rfl) ?_
                    refine W.eq (g2 := F0 m 144 ls [.ref a_r]) rfl ?_
                    refine lv_dup hx hb dX4_readPart_144 rfl ?_
                    refine va_get (D := G.1) (ci := 4) (v := .int e_pa) (C := RX4) (T := TX4) (N := 8) hx hb hts inG_X4 hown hK hP 3 rfl rfl 5 (by decide +kernel) (hts _ fl_X4_39) (fun _ h9 => h9) rfl dX4_readPart_145 ?_
                    refine lv_iconst (v := 1) hx hb dX4_readPart_148 (by decide +kernel) ?_
                    refine lv_iadd hx hb dX4_readPart_149 ?_
                    have t_82 : (e_pa + 1).toInt = e_pa.toInt + 1 := g5_iadd (a := e_pa.toInt) (b := 1) (by rfl) (by decide +kernel) (by omega) (by omega)
                    refine va_put (D := G.1) (ci := 4) (v := .int (e_pa + 1)) (ty := .int) (C := RX4) (T := TX4) (N := 8) hx hb hts inG_X4 tyX4 tyX4_ok nmX4 hown hK hP hD hS 3 rfl rfl 5 (by decide +kernel) (hts _ fl_X4_39) (fun _ h9 => h9) rfl (by decide +kernel) rfl rfl (Nat.le_of_ble_eq_true rfl) dX4_readPart_150 ?_
                    clear hP hD hS
                    intro H locs hP hD hS
                    refine g5_rs [(a_nm, (arI G 401 f_nm)), (a_tk, (oc8 a_kd a_nm a_pl)), (a_kd, (arI G 401 f_kd)), (a_r, (oc4 a_tk a_rh a_rs a_rc z79 (e_pa + 1) e_at e_fp)), (a_rc, (arI G 400 z80))] hP hD ?_
                    clear hP hD
                    intro hP hD
                    refine W.eq (g2 := F0 m 153 ls []) rfl ?_
                    refine lv_aload_n hx hb dX4_readPart_153 rfl (lv_at hl 2 rfl) ?_
                    refine lv_dup hx hb dX4_readPart_154 rfl ?_
                    refine va_get (D := G.1) (ci := 4) (v := .int e_at) (C := RX4) (T := TX4) (N := 8) hx hb hts inG_X4 hown hK hP 3 rfl rfl 6 (by decide +kernel) (hts _ fl_X4_42) (fun _ h9 => h9) rfl dX4_readPart_155 ?_
                    refine lv_iconst (v := 1) hx hb dX4_readPart_158 (by decide +kernel) ?_
                    refine lv_iadd hx hb dX4_readPart_159 ?_
                    have t_83 : (e_at + 1).toInt = e_at.toInt + 1 := g5_iadd (a := e_at.toInt) (b := 1) (by rfl) (by decide +kernel) (by omega) (by omega)
                    refine W.eq (g2 := F0 m 160 ls [.int (e_at + 1), .ref a_r]) rfl ?_
                    refine va_put (D := G.1) (ci := 4) (v := .int (e_at + 1)) (ty := .int) (C := RX4) (T := TX4) (N := 8) hx hb hts inG_X4 tyX4 tyX4_ok nmX4 hown hK hP hD hS 3 rfl rfl 6 (by decide +kernel) (hts _ fl_X4_42) (fun _ h9 => h9) rfl (by decide +kernel) rfl rfl (Nat.le_of_ble_eq_true rfl) dX4_readPart_160 ?_
                    clear hP hD hS
                    intro H locs hP hD hS
                    refine g5_rs [(a_nm, (arI G 401 f_nm)), (a_tk, (oc8 a_kd a_nm a_pl)), (a_kd, (arI G 401 f_kd)), (a_r, (oc4 a_tk a_rh a_rs a_rc z79 (e_pa + 1) (e_at + 1) e_fp)), (a_rc, (arI G 400 z80))] hP hD ?_
                    clear hP hD
                    intro hP hD
                    refine lv_iconst (v := 1) hx hb dX4_readPart_163 (by decide +kernel) ?_
                    exact W.zret (v := 1) hx hb hr rfl (fun t ht hW => ⟨⟨1, [(a_r, (oc4 a_tk a_rh a_rs a_rc z79 (e_pa + 1) (e_at + 1) e_fp)), (a_tk, (oc8 a_kd a_nm a_pl)), (a_kd, (arI G 401 f_kd)), (a_nm, (arI G 401 f_nm)), (a_rc, (arI G 400 z80))], rfl, Or.inl (⟨z79, (e_pa + 1), (e_at + 1), z80, ⟨by omega, by omega⟩, ⟨by omega, by omega⟩, ⟨by omega, by omega⟩, i_74, i_75, ⟨_, ow_leaf (fun q9 => i_2 (hK0.trans q9)) hk8 ⟨by omega, by omega⟩ (by omega) (by omega) (by omega), by rw [i_77]; exact kcc_em (by omega), by rw [i_77]; exact mcc_numK (by omega) (by omega) (by omega) hn9 (num_rg (by omega) e_by), by rw [i_77]; exact lv_leaf e_lv (by omega) (by omega) (by rw [opT_0 (a := (f_nm e_at.toNatClampNeg)) (by rw [hn9]; exact num_rg (by omega) e_by)]; decide) (by omega) (by omega)⟩, by omega, rfl, rfl⟩), by rw [ht]; exact hP.sub [3, 1, 2, 0, 4] rfl, hD.sub [3, 1, 2, 0, 4] (by decide +kernel) rfl⟩, hS.F ht⟩) hS.2.2 dX4_readPart_164
                  ·
                    exact absurd c_69 (by decide +kernel)
                ·
                  exact absurd c_68 (by decide +kernel)
              ·
                have i_66 : e_pa.toInt ≥ 50 := g5_ltN (a := e_pa.toInt) (b := 50) rfl (by decide +kernel) c_66
                refine lv_iconst (v := 0) hx hb dX4_readPart_107 (by decide +kernel) ?_
                exact W.zret (v := 0) hx hb hr rfl (fun t ht hW => ⟨⟨0, [(a_r, (oc4 a_tk a_rh a_rs a_rc e_ln e_pa e_at e_fp)), (a_tk, (oc8 a_kd a_nm a_pl)), (a_kd, (arI G 401 f_kd)), (a_nm, (arI G 401 f_nm)), (a_rc, (arI G 400 f_rc))], rfl, Or.inr (⟨e_ln, e_pa, e_at, f_rc, ⟨by omega, by omega⟩, h_e_at, h_e_pa, e_cd, opk_refl, ⟨_, ow_no (fun q9 => i_2 (hK0.trans q9)) (Or.inr (by omega))⟩, by omega, rfl, rfl⟩), by rw [ht]; exact hP.sub [2, 3, 4, 0, 1] rfl, hD.sub [2, 3, 4, 0, 1] (by decide +kernel) rfl⟩, hS.F ht⟩) hS.2.2 dX4_readPart_108
          ·
            have hJ9 := va_join (wr := [(a_nm, (arI G 401 f_nm)), (a_rc, (arI G 400 f_rc))]) hP hD [2, 3, 4] [0, 1] rfl rfl (by decide +kernel) (by decide +kernel) hk1 hFc hP1 hD1
            clear hP hD hPc hDc hFc ht hvm hz1 hk1 hP1 hD1
            obtain ⟨hP, hD⟩ := hJ9
            refine g5_rs [(a_nm, (arI G 401 f_nm)), (a_rc, (arI G 400 f_rc)), (a_r, (oc4 a_tk a_rh a_rs a_rc e_ln e_pa e_at e_fp)), (a_tk, (oc8 a_kd a_nm a_pl)), (a_kd, (arI G 401 f_kd))] hP hD ?_
            clear hP hD
            intro hP hD
            refine lv_if_eq (tgt := 107) hx hb dX4_readPart_95 (by decide +kernel) (fun c_84 => ?_) (fun c_84 => ?_)
            ·
              refine lv_iconst (v := 0) hx hb dX4_readPart_107 (by decide +kernel) ?_
              exact W.zret (v := 0) hx hb hr rfl (fun t ht hW => ⟨⟨0, [(a_r, (oc4 a_tk a_rh a_rs a_rc e_ln e_pa e_at e_fp)), (a_tk, (oc8 a_kd a_nm a_pl)), (a_kd, (arI G 401 f_kd)), (a_nm, (arI G 401 f_nm)), (a_rc, (arI G 400 f_rc))], rfl, Or.inr (⟨e_ln, e_pa, e_at, f_rc, ⟨by omega, by omega⟩, h_e_at, h_e_pa, e_cd, opk_refl, ⟨_, ow_no (fun q9 => i_2 (hK0.trans q9)) (Or.inl (fun q8 => by rcases q8 with q8 | q8; exact i_64 (hK0.trans q8); omega))⟩, by omega, rfl, rfl⟩), by rw [ht]; exact hP.sub [2, 3, 4, 0, 1] rfl, hD.sub [2, 3, 4, 0, 1] (by decide +kernel) rfl⟩, hS.F ht⟩) hS.2.2 dX4_readPart_108
            ·
              exact absurd c_84 (by decide +kernel)
      ·
        have i_61 : ((z57.toInt - 256) - 8) ≥ 0 := by have z := g5_ltN (a := ((z57 - 256) - 8).toInt) (b := 0) (by rfl) (by decide +kernel) c_61; omega
        refine lv_iload_n hx hb dX4_readPart_72 rfl (lv_at hl 0 rfl) ?_
        refine lv_bipush (v := 8) hx hb dX4_readPart_73 (by decide +kernel) ?_
        refine lv_icmp_ge (tgt := 82) hx hb dX4_readPart_75 (by decide +kernel) (fun c_85 => ?_) (fun c_85 => ?_)
        ·
          have i_85 : ((z57.toInt - 256) - 8) ≥ 8 := by have z := g5_ge (a := ((z57 - 256) - 8).toInt) (b := 8) (by rfl) (by decide +kernel) c_85; omega
          refine lv_iconst (v := 0) hx hb dX4_readPart_82 (by decide +kernel) ?_
          refine lv_istore_n (lv' := [(3, .int 0), (2, .int ((z57 - 256) - 8)), (0, .ref a_r), (1, .int p_d)]) hx hb dX4_readPart_83 rfl hl (by decide +kernel) rfl ?_
          clear hl
          intro ls hl
          refine lv_iload_n hx hb dX4_readPart_84 rfl (lv_at hl 0 rfl) ?_
          refine lv_if_ne (tgt := 98) hx hb dX4_readPart_85 (by decide +kernel) (fun c_86 => ?_) (fun c_86 => ?_)
          ·
            exact absurd c_86 (by decide +kernel)
          ·
            refine lv_aload_n hx hb dX4_readPart_88 rfl (lv_at hl 2 rfl) ?_
            refine lv_sipush (v := 300) hx hb dX4_readPart_89 (by decide +kernel) ?_
            obtain ⟨hPc, hDc, hFc⟩ := g5_sub3 (wc := [(a_r, (oc4 a_tk a_rh a_rs a_rc e_ln e_pa e_at e_fp)), (a_tk, (oc8 a_kd a_nm a_pl)), (a_kd, (arI G 401 f_kd))]) hP hD hS hA [2, 3, 4] (by decide +kernel) rfl
            refine va_calli (va_runV (As := [.int 300]) (rest := []) ⟨hx, hb, hml, hown, hts⟩ (r_isNextX300 l G a_r a_tk a_kd a_rh a_rs a_rc a_nm a_pl H.size e_ln e_pa e_at e_fp f_kd h_e_ln h_e_pa h_e_at (by omega)) (cwV 1 hts gV_X4_49 rfl rfl rfl hv_X4_isNext ⟨by simp only [headSpec]; omega, by simp only [headSpec]; omega⟩) (g5_preV hPc hK hDc hN hT hS hFc (ci := 4) (q0 := 0) rfl rfl) rfl rfl hl.1 rfl (lv_room (Nat.le_of_ble_eq_true rfl)) dX4_readPart_92 ⟨Nat.le_of_ble_eq_true rfl, Nat.le_of_ble_eq_true rfl⟩) hS (fun q _ h => hFc q h) hFc (fun r u t H locs ht hvm hw hB hz1 hk1 hS => ?_)
            obtain ⟨hP1, hD1⟩ := hB
            have hP1 := g5_ht ht hP1
            rcases hw with ⟨(i_87 : (f_kd e_at.toNatClampNeg).toInt = 300), rfl, rfl⟩ | ⟨(i_88 : gNe (f_kd e_at.toNatClampNeg).toInt 300), rfl, rfl⟩
            ·
              have hJ9 := va_join (wr := [(a_nm, (arI G 401 f_nm)), (a_rc, (arI G 400 f_rc))]) hP hD [2, 3, 4] [0, 1] rfl rfl (by decide +kernel) (by decide +kernel) hk1 hFc hP1 hD1
              clear hP hD hPc hDc hFc ht hvm hz1 hk1 hP1 hD1
              obtain ⟨hP, hD⟩ := hJ9
              refine g5_rs [(a_nm, (arI G 401 f_nm)), (a_rc, (arI G 400 f_rc)), (a_r, (oc4 a_tk a_rh a_rs a_rc e_ln e_pa e_at e_fp)), (a_tk, (oc8 a_kd a_nm a_pl)), (a_kd, (arI G 401 f_kd))] hP hD ?_
              clear hP hD
              intro hP hD
              refine lv_if_eq (tgt := 107) hx hb dX4_readPart_95 (by decide +kernel) (fun c_89 => ?_) (fun c_89 => ?_)
              ·
                exact absurd c_89 (by decide +kernel)
              ·
                refine lv_aload_n hx hb dX4_readPart_98 rfl (lv_at hl 2 rfl) ?_
                refine va_get (D := G.1) (ci := 4) (v := .int e_pa) (C := RX4) (T := TX4) (N := 8) hx hb hts inG_X4 hown hK hP 2 rfl rfl 5 (by decide +kernel) (hts _ fl_X4_39) (fun _ h9 => h9) rfl dX4_readPart_99 ?_
                refine lv_bipush (v := 50) hx hb dX4_readPart_102 (by decide +kernel) ?_
                refine lv_icmp_lt (tgt := 109) hx hb dX4_readPart_104 (by decide +kernel) (fun c_90 => ?_) (fun c_90 => ?_)
                ·
                  have i_90 : e_pa.toInt < 50 := g5_lt (a := e_pa.toInt) (b := 50) rfl (by decide +kernel) c_90
                  have hk8 : KDT g_x g_n e_at.toInt.toNat = 300 ∨ (264 ≤ KDT g_x g_n e_at.toInt.toNat ∧ KDT g_x g_n e_at.toInt.toNat < 272) := by omega
                  have hL9 : e_at.toInt < (g_T : Int) := by have q9 := (tkr_lt (i := e_at.toInt.toNat) e_kr (by omega) (by omega)).1; omega
                  have hE_91 : f_kd e_at.toNatClampNeg = 300 := Int32.toInt_inj.mp (i_87.trans (by decide +kernel))
                  have hn9 : f_nm e_at.toNatClampNeg = NMT g_x g_n e_at.toInt.toNat := tkr_nm e_kr (by omega) (by omega)
                  refine lv_aload_n hx hb dX4_readPart_109 rfl (lv_at hl 2 rfl) ?_
                  refine lv_iload_n hx hb dX4_readPart_110 rfl (lv_at hl 0 rfl) ?_
                  refine lv_if_eq (tgt := 118) hx hb dX4_readPart_111 (by decide +kernel) (fun c_92 => ?_) (fun c_92 => ?_)
                  ·
                    refine lv_iconst (v := 0) hx hb dX4_readPart_118 (by decide +kernel) ?_
                    refine lv_iload_n hx hb dX4_readPart_119 rfl (lv_at hl 0 rfl) ?_
                    refine lv_if_eq (tgt := 127) hx hb dX4_readPart_120 (by decide +kernel) (fun c_93 => ?_) (fun c_93 => ?_)
                    ·
                      refine lv_aload_n hx hb dX4_readPart_127 rfl (lv_at hl 2 rfl) ?_
                      refine va_get (D := G.1) (ci := 4) (v := .ref a_tk) (C := RX4) (T := TX4) (N := 8) hx hb hts inG_X4 hown hK hP 2 rfl rfl 0 (by decide +kernel) (hts _ fl_X4_12) (fun _ h9 => h9) rfl dX4_readPart_128 ?_
                      refine va_get (D := G.1) (ci := 8) (v := .ref a_nm) (C := RX8) (T := TX8) (N := 3) hx hb hts inG_X8 hown hK hP 3 rfl rfl 1 (by decide +kernel) (hts _ fl_X4_93) (fun _ h9 => h9) rfl dX4_readPart_131 ?_
                      refine lv_aload_n hx hb dX4_readPart_134 rfl (lv_at hl 2 rfl) ?_
                      refine W.eq (g2 := F0 m 135 ls [.ref a_r, .ref a_nm, .int 0, .ref a_r]) rfl ?_
                      refine va_get (D := G.1) (ci := 4) (v := .int e_at) (C := RX4) (T := TX4) (N := 8) hx hb hts inG_X4 hown hK hP 2 rfl rfl 6 (by decide +kernel) (hts _ fl_X4_42) (fun _ h9 => h9) rfl dX4_readPart_135 ?_
                      refine va_iald hx hb hK hP 0 0 rfl rfl (i := e_at) (vp_in_iff.mpr ⟨by omega, by omega⟩) dX4_readPart_138 ?_
                      obtain ⟨hPc, hDc, hFc⟩ := g5_sub3 (wc := [(a_r, (oc4 a_tk a_rh a_rs a_rc e_ln e_pa e_at e_fp)), (a_rc, (arI G 400 f_rc))]) hP hD hS hA [2, 1] (by decide +kernel) rfl
                      refine va_calli (va_runV (As := [.int 0, .int (f_nm e_at.toNatClampNeg)]) (rest := []) ⟨hx, hb, hml, hown, hts⟩ (r_emitX l G a_r a_rc a_tk a_rh a_rs H.size e_ln e_pa e_at e_fp 0 (f_nm e_at.toNatClampNeg) f_rc h_e_ln h_e_pa h_e_at (e_cd) (wok_num (toki_num e_tk hE_91)) (by omega)) (cwV 2 hts gV_X4_79 rfl rfl rfl hv_X4_emit ⟨by simp only [headSpec]; omega, by simp only [headSpec]; omega⟩) (g5_preV hPc hK hDc hN hT hS hFc (ci := 4) (q0 := 0) rfl rfl) rfl rfl hl.1 rfl (lv_room (Nat.le_of_ble_eq_true rfl)) dX4_readPart_139 ⟨Nat.le_of_ble_eq_true rfl, Nat.le_of_ble_eq_true rfl⟩) hS (fun q _ h => hFc q h) hFc (fun r u t H locs ht hvm hw hB hz1 hk1 hS => ?_)
                      obtain ⟨hP1, hD1⟩ := hB
                      have hP1 := g5_ht ht hP1
                      obtain ⟨z102, z103, z104, (i_94 : 0 ≤ z102.toInt ∧ z102.toInt ≤ 399), (i_95 : z102.toInt = e_ln.toInt), (i_96 : z103.toInt = e_ln.toInt + 1), (i_97 : e_ln.toInt ≤ z103.toInt ∧ z103.toInt ≤ 400), (i_98 : CDI z104 z103.toInt), (i_99 : OPK f_rc z104 e_ln.toInt), (i_100 : 0 ≤ z102.toInt → z102.toInt < z103.toInt ∧ z104 z102.toNatClampNeg = (((0 : Int32) <<< (12 &&& 31)) ||| (f_nm e_at.toNatClampNeg))), (i_101 : z104 = upd f_rc e_ln.toNatClampNeg (((0 : Int32) <<< (12 &&& 31)) ||| (f_nm e_at.toNatClampNeg))), y105, rfl⟩ := hw
                      have hJ9 := va_join (wr := [(a_nm, (arI G 401 f_nm)), (a_tk, (oc8 a_kd a_nm a_pl)), (a_kd, (arI G 401 f_kd))]) hP hD [2, 1] [0, 3, 4] rfl rfl (by decide +kernel) (by decide +kernel) hk1 hFc hP1 hD1
                      clear hP hD hPc hDc hFc ht hvm hz1 hk1 hP1 hD1
                      obtain ⟨hP, hD⟩ := hJ9
                      refine g5_rs [(a_nm, (arI G 401 f_nm)), (a_tk, (oc8 a_kd a_nm a_pl)), (a_kd, (arI G 401 f_kd)), (a_r, (oc4 a_tk a_rh a_rs a_rc z103 e_pa e_at e_fp)), (a_rc, (arI G 400 z104))] hP hD ?_
                      clear hP hD
                      intro hP hD
                      refine g5_ti (v := z102) y105 ?_
                      refine lv_pop hx hb dX4_readPart_142 rfl ?_
                      refine lv_aload_n hx hb dX4_readPart_143 rfl (lv_at hl 2 rfl) ?_
                      refine W.eq (g2 := F0 m 144 ls [.ref a_r]) rfl ?_
                      refine lv_dup hx hb dX4_readPart_144 rfl ?_
                      refine va_get (D := G.1) (ci := 4) (v := .int e_pa) (C := RX4) (T := TX4) (N := 8) hx hb hts inG_X4 hown hK hP 3 rfl rfl 5 (by decide +kernel) (hts _ fl_X4_39) (fun _ h9 => h9) rfl dX4_readPart_145 ?_
                      refine lv_iconst (v := 1) hx hb dX4_readPart_148 (by decide +kernel) ?_
                      refine lv_iadd hx hb dX4_readPart_149 ?_
                      have t_106 : (e_pa + 1).toInt = e_pa.toInt + 1 := g5_iadd (a := e_pa.toInt) (b := 1) (by rfl) (by decide +kernel) (by omega) (by omega)
                      refine va_put (D := G.1) (ci := 4) (v := .int (e_pa + 1)) (ty := .int) (C := RX4) (T := TX4) (N := 8) hx hb hts inG_X4 tyX4 tyX4_ok nmX4 hown hK hP hD hS 3 rfl rfl 5 (by decide +kernel) (hts _ fl_X4_39) (fun _ h9 => h9) rfl (by decide +kernel) rfl rfl (Nat.le_of_ble_eq_true rfl) dX4_readPart_150 ?_
                      clear hP hD hS
                      intro H locs hP hD hS
                      refine g5_rs [(a_nm, (arI G 401 f_nm)), (a_tk, (oc8 a_kd a_nm a_pl)), (a_kd, (arI G 401 f_kd)), (a_r, (oc4 a_tk a_rh a_rs a_rc z103 (e_pa + 1) e_at e_fp)), (a_rc, (arI G 400 z104))] hP hD ?_
                      clear hP hD
                      intro hP hD
                      refine W.eq (g2 := F0 m 153 ls []) rfl ?_
                      refine lv_aload_n hx hb dX4_readPart_153 rfl (lv_at hl 2 rfl) ?_
                      refine lv_dup hx hb dX4_readPart_154 rfl ?_
                      refine va_get (D := G.1) (ci := 4) (v := .int e_at) (C := RX4) (T := TX4) (N := 8) hx hb hts inG_X4 hown hK hP 3 rfl rfl 6 (by decide +kernel) (hts _ fl_X4_42) (fun _ h9 => h9) rfl dX4_readPart_155 ?_
                      refine lv_iconst (v := 1) hx hb dX4_readPart_158 (by decide +kernel) ?_
                      refine lv_iadd hx hb dX4_readPart_159 ?_
                      have t_107 : (e_at + 1).toInt = e_at.toInt + 1 := g5_iadd (a := e_at.toInt) (b := 1) (by rfl) (by decide +kernel) (by omega) (by omega)
                      refine W.eq (g2 := F0 m 160 ls [.int (e_at + 1), .ref a_r]) rfl ?_
                      refine va_put (D := G.1) (ci := 4) (v := .int (e_at + 1)) (ty := .int) (C := RX4) (T := TX4) (N := 8) hx hb hts inG_X4 tyX4 tyX4_ok nmX4 hown hK hP hD hS 3 rfl rfl 6 (by decide +kernel) (hts _ fl_X4_42) (fun _ h9 => h9) rfl (by decide +kernel) rfl rfl (Nat.le_of_ble_eq_true rfl) dX4_readPart_160 ?_
                      clear hP hD hS
                      intro H locs hP hD hS
                      refine g5_rs [(a_nm, (arI G 401 f_nm)), (a_tk, (oc8 a_kd a_nm a_pl)), (a_kd, (arI G 401 f_kd)), (a_r, (oc4 a_tk a_rh a_rs a_rc z103 (e_pa + 1) (e_at + 1) e_fp)), (a_rc, (arI G 400 z104))] hP hD ?_
                      clear hP hD
                      intro hP hD
                      refine lv_iconst (v := 1) hx hb dX4_readPart_163 (by decide +kernel) ?_
                      exact W.zret (v := 1) hx hb hr rfl (fun t ht hW => ⟨⟨1, [(a_r, (oc4 a_tk a_rh a_rs a_rc z103 (e_pa + 1) (e_at + 1) e_fp)), (a_tk, (oc8 a_kd a_nm a_pl)), (a_kd, (arI G 401 f_kd)), (a_nm, (arI G 401 f_nm)), (a_rc, (arI G 400 z104))], rfl, Or.inl (⟨z103, (e_pa + 1), (e_at + 1), z104, ⟨by omega, by omega⟩, ⟨by omega, by omega⟩, ⟨by omega, by omega⟩, i_98, i_99, ⟨_, ow_leaf (fun q9 => i_2 (hK0.trans q9)) hk8 ⟨by omega, by omega⟩ (by omega) (by omega) (by omega), by rw [i_101]; exact kcc_em (by omega), by rw [i_101]; exact mcc_numK (by omega) (by omega) (by omega) hn9 (num_rg (by omega) e_by), by rw [i_101]; exact lv_leaf e_lv (by omega) (by omega) (by rw [opT_0 (a := (f_nm e_at.toNatClampNeg)) (by rw [hn9]; exact num_rg (by omega) e_by)]; decide) (by omega) (by omega)⟩, by omega, rfl, rfl⟩), by rw [ht]; exact hP.sub [3, 1, 2, 0, 4] rfl, hD.sub [3, 1, 2, 0, 4] (by decide +kernel) rfl⟩, hS.F ht⟩) hS.2.2 dX4_readPart_164
                    ·
                      exact absurd c_93 (by decide +kernel)
                  ·
                    exact absurd c_92 (by decide +kernel)
                ·
                  have i_90 : e_pa.toInt ≥ 50 := g5_ltN (a := e_pa.toInt) (b := 50) rfl (by decide +kernel) c_90
                  refine lv_iconst (v := 0) hx hb dX4_readPart_107 (by decide +kernel) ?_
                  exact W.zret (v := 0) hx hb hr rfl (fun t ht hW => ⟨⟨0, [(a_r, (oc4 a_tk a_rh a_rs a_rc e_ln e_pa e_at e_fp)), (a_tk, (oc8 a_kd a_nm a_pl)), (a_kd, (arI G 401 f_kd)), (a_nm, (arI G 401 f_nm)), (a_rc, (arI G 400 f_rc))], rfl, Or.inr (⟨e_ln, e_pa, e_at, f_rc, ⟨by omega, by omega⟩, h_e_at, h_e_pa, e_cd, opk_refl, ⟨_, ow_no (fun q9 => i_2 (hK0.trans q9)) (Or.inr (by omega))⟩, by omega, rfl, rfl⟩), by rw [ht]; exact hP.sub [2, 3, 4, 0, 1] rfl, hD.sub [2, 3, 4, 0, 1] (by decide +kernel) rfl⟩, hS.F ht⟩) hS.2.2 dX4_readPart_108
            ·
              have hJ9 := va_join (wr := [(a_nm, (arI G 401 f_nm)), (a_rc, (arI G 400 f_rc))]) hP hD [2, 3, 4] [0, 1] rfl rfl (by decide +kernel) (by decide +kernel) hk1 hFc hP1 hD1
              clear hP hD hPc hDc hFc ht hvm hz1 hk1 hP1 hD1
              obtain ⟨hP, hD⟩ := hJ9
              refine g5_rs [(a_nm, (arI G 401 f_nm)), (a_rc, (arI G 400 f_rc)), (a_r, (oc4 a_tk a_rh a_rs a_rc e_ln e_pa e_at e_fp)), (a_tk, (oc8 a_kd a_nm a_pl)), (a_kd, (arI G 401 f_kd))] hP hD ?_
              clear hP hD
              intro hP hD
              refine lv_if_eq (tgt := 107) hx hb dX4_readPart_95 (by decide +kernel) (fun c_108 => ?_) (fun c_108 => ?_)
              ·
                refine lv_iconst (v := 0) hx hb dX4_readPart_107 (by decide +kernel) ?_
                exact W.zret (v := 0) hx hb hr rfl (fun t ht hW => ⟨⟨0, [(a_r, (oc4 a_tk a_rh a_rs a_rc e_ln e_pa e_at e_fp)), (a_tk, (oc8 a_kd a_nm a_pl)), (a_kd, (arI G 401 f_kd)), (a_nm, (arI G 401 f_nm)), (a_rc, (arI G 400 f_rc))], rfl, Or.inr (⟨e_ln, e_pa, e_at, f_rc, ⟨by omega, by omega⟩, h_e_at, h_e_pa, e_cd, opk_refl, ⟨_, ow_no (fun q9 => i_2 (hK0.trans q9)) (Or.inl (fun q8 => by rcases q8 with q8 | q8; exact i_88 (hK0.trans q8); omega))⟩, by omega, rfl, rfl⟩), by rw [ht]; exact hP.sub [2, 3, 4, 0, 1] rfl, hD.sub [2, 3, 4, 0, 1] (by decide +kernel) rfl⟩, hS.F ht⟩) hS.2.2 dX4_readPart_108
              ·
                exact absurd c_108 (by decide +kernel)
        ·
          have i_85 : ((z57.toInt - 256) - 8) < 8 := by have z := g5_geN (a := ((z57 - 256) - 8).toInt) (b := 8) (by rfl) (by decide +kernel) c_85; omega
          refine lv_iconst (v := 1) hx hb dX4_readPart_78 (by decide +kernel) ?_
          refine lv_goto (tgt := 83) hx hb dX4_readPart_79 (by decide +kernel) ?_
          refine lv_istore_n (lv' := [(3, .int 1), (2, .int ((z57 - 256) - 8)), (0, .ref a_r), (1, .int p_d)]) hx hb dX4_readPart_83 rfl hl (by decide +kernel) rfl ?_
          clear hl
          intro ls hl
          refine lv_iload_n hx hb dX4_readPart_84 rfl (lv_at hl 0 rfl) ?_
          refine W.eq (g2 := F0 m 85 ls [.int 1]) rfl ?_
          refine lv_if_ne (tgt := 98) hx hb dX4_readPart_85 (by decide +kernel) (fun c_109 => ?_) (fun c_109 => ?_)
          ·
            refine lv_aload_n hx hb dX4_readPart_98 rfl (lv_at hl 2 rfl) ?_
            refine va_get (D := G.1) (ci := 4) (v := .int e_pa) (C := RX4) (T := TX4) (N := 8) hx hb hts inG_X4 hown hK hP 2 rfl rfl 5 (by decide +kernel) (hts _ fl_X4_39) (fun _ h9 => h9) rfl dX4_readPart_99 ?_
            refine lv_bipush (v := 50) hx hb dX4_readPart_102 (by decide +kernel) ?_
            refine lv_icmp_lt (tgt := 109) hx hb dX4_readPart_104 (by decide +kernel) (fun c_110 => ?_) (fun c_110 => ?_)
            ·
              have i_110 : e_pa.toInt < 50 := g5_lt (a := e_pa.toInt) (b := 50) rfl (by decide +kernel) c_110
              have hk8 : KDT g_x g_n e_at.toInt.toNat = 300 ∨ (264 ≤ KDT g_x g_n e_at.toInt.toNat ∧ KDT g_x g_n e_at.toInt.toNat < 272) := by omega
              have hL9 : e_at.toInt < (g_T : Int) := by have q9 := (tkr_lt (i := e_at.toInt.toNat) e_kr (by omega) (by omega)).1; omega
              have hn9 : f_nm e_at.toNatClampNeg = NMT g_x g_n e_at.toInt.toNat := tkr_nm e_kr (by omega) (by omega)
              refine lv_aload_n hx hb dX4_readPart_109 rfl (lv_at hl 2 rfl) ?_
              refine lv_iload_n hx hb dX4_readPart_110 rfl (lv_at hl 0 rfl) ?_
              refine lv_if_eq (tgt := 118) hx hb dX4_readPart_111 (by decide +kernel) (fun c_111 => ?_) (fun c_111 => ?_)
              ·
                exact absurd c_111 (by decide +kernel)
              ·
                refine lv_iconst (v := 1) hx hb dX4_readPart_114 (by decide +kernel) ?_
                refine lv_goto (tgt := 119) hx hb dX4_readPart_115 (by decide +kernel) ?_
                refine lv_iload_n hx hb dX4_readPart_119 rfl (lv_at hl 0 rfl) ?_
                refine lv_if_eq (tgt := 127) hx hb dX4_readPart_120 (by decide +kernel) (fun c_112 => ?_) (fun c_112 => ?_)
                ·
                  exact absurd c_112 (by decide +kernel)
                ·
                  refine lv_iload_n hx hb dX4_readPart_123 rfl (lv_at hl 1 rfl) ?_
                  refine lv_goto (tgt := 139) hx hb dX4_readPart_124 (by decide +kernel) ?_
                  obtain ⟨hPc, hDc, hFc⟩ := g5_sub3 (wc := [(a_r, (oc4 a_tk a_rh a_rs a_rc e_ln e_pa e_at e_fp)), (a_rc, (arI G 400 f_rc))]) hP hD hS hA [2, 1] (by decide +kernel) rfl
                  refine va_calli (va_runV (As := [.int 1, .int ((z57 - 256) - 8)]) (rest := []) ⟨hx, hb, hml, hown, hts⟩ (r_emitX l G a_r a_rc a_tk a_rh a_rs H.size e_ln e_pa e_at e_fp 1 ((z57 - 256) - 8) f_rc h_e_ln h_e_pa h_e_at (e_cd) (wok_word (by omega) (by omega)) (by omega)) (cwV 2 hts gV_X4_79 rfl rfl rfl hv_X4_emit ⟨by simp only [headSpec]; omega, by simp only [headSpec]; omega⟩) (g5_preV hPc hK hDc hN hT hS hFc (ci := 4) (q0 := 0) rfl rfl) rfl rfl hl.1 rfl (lv_room (Nat.le_of_ble_eq_true rfl)) dX4_readPart_139 ⟨Nat.le_of_ble_eq_true rfl, Nat.le_of_ble_eq_true rfl⟩) hS (fun q _ h => hFc q h) hFc (fun r u t H locs ht hvm hw hB hz1 hk1 hS => ?_)
                  obtain ⟨hP1, hD1⟩ := hB
                  have hP1 := g5_ht ht hP1
                  obtain ⟨z121, z122, z123, (i_113 : 0 ≤ z121.toInt ∧ z121.toInt ≤ 399), (i_114 : z121.toInt = e_ln.toInt), (i_115 : z122.toInt = e_ln.toInt + 1), (i_116 : e_ln.toInt ≤ z122.toInt ∧ z122.toInt ≤ 400), (i_117 : CDI z123 z122.toInt), (i_118 : OPK f_rc z123 e_ln.toInt), (i_119 : 0 ≤ z121.toInt → z121.toInt < z122.toInt ∧ z123 z121.toNatClampNeg = (((1 : Int32) <<< (12 &&& 31)) ||| ((z57 - 256) - 8))), (i_120 : z123 = upd f_rc e_ln.toNatClampNeg (((1 : Int32) <<< (12 &&& 31)) ||| ((z57 - 256) - 8))), y124, rfl⟩ := hw
                  have hJ9 := va_join (wr := [(a_nm, (arI G 401 f_nm)), (a_tk, (oc8 a_kd a_nm a_pl)), (a_kd, (arI G 401 f_kd))]) hP hD [2, 1] [0, 3, 4] rfl rfl (by decide +kernel) (by decide +kernel) hk1 hFc hP1 hD1
                  clear hP hD hPc hDc hFc ht hvm hz1 hk1 hP1 hD1
                  obtain ⟨hP, hD⟩ := hJ9
                  refine g5_rs [(a_nm, (arI G 401 f_nm)), (a_tk, (oc8 a_kd a_nm a_pl)), (a_kd, (arI G 401 f_kd)), (a_r, (oc4 a_tk a_rh a_rs a_rc z122 e_pa e_at e_fp)), (a_rc, (arI G 400 z123))] hP hD ?_
                  clear hP hD
                  intro hP hD
                  refine g5_ti (v := z121) y124 ?_
                  refine lv_pop hx hb dX4_readPart_142 rfl ?_
                  refine W.eq (g2 := F0 m 143 ls []) rfl ?_
                  refine lv_aload_n hx hb dX4_readPart_143 rfl (lv_at hl 2 rfl) ?_
                  refine lv_dup hx hb dX4_readPart_144 rfl ?_
                  refine va_get (D := G.1) (ci := 4) (v := .int e_pa) (C := RX4) (T := TX4) (N := 8) hx hb hts inG_X4 hown hK hP 3 rfl rfl 5 (by decide +kernel) (hts _ fl_X4_39) (fun _ h9 => h9) rfl dX4_readPart_145 ?_
                  refine lv_iconst (v := 1) hx hb dX4_readPart_148 (by decide +kernel) ?_
                  refine lv_iadd hx hb dX4_readPart_149 ?_
                  have t_125 : (e_pa + 1).toInt = e_pa.toInt + 1 := g5_iadd (a := e_pa.toInt) (b := 1) (by rfl) (by decide +kernel) (by omega) (by omega)
                  refine W.eq (g2 := F0 m 150 ls [.int (e_pa + 1), .ref a_r]) rfl ?_
                  refine va_put (D := G.1) (ci := 4) (v := .int (e_pa + 1)) (ty := .int) (C := RX4) (T := TX4) (N := 8) hx hb hts inG_X4 tyX4 tyX4_ok nmX4 hown hK hP hD hS 3 rfl rfl 5 (by decide +kernel) (hts _ fl_X4_39) (fun _ h9 => h9) rfl (by decide +kernel) rfl rfl (Nat.le_of_ble_eq_true rfl) dX4_readPart_150 ?_
                  clear hP hD hS
                  intro H locs hP hD hS
                  refine g5_rs [(a_nm, (arI G 401 f_nm)), (a_tk, (oc8 a_kd a_nm a_pl)), (a_kd, (arI G 401 f_kd)), (a_r, (oc4 a_tk a_rh a_rs a_rc z122 (e_pa + 1) e_at e_fp)), (a_rc, (arI G 400 z123))] hP hD ?_
                  clear hP hD
                  intro hP hD
                  refine lv_aload_n hx hb dX4_readPart_153 rfl (lv_at hl 2 rfl) ?_
                  refine lv_dup hx hb dX4_readPart_154 rfl ?_
                  refine va_get (D := G.1) (ci := 4) (v := .int e_at) (C := RX4) (T := TX4) (N := 8) hx hb hts inG_X4 hown hK hP 3 rfl rfl 6 (by decide +kernel) (hts _ fl_X4_42) (fun _ h9 => h9) rfl dX4_readPart_155 ?_
                  refine lv_iconst (v := 1) hx hb dX4_readPart_158 (by decide +kernel) ?_
                  refine W.eq (g2 := F0 m 159 ls [.int 1, .int e_at, .ref a_r]) rfl ?_
                  refine lv_iadd hx hb dX4_readPart_159 ?_
                  have t_126 : (e_at + 1).toInt = e_at.toInt + 1 := g5_iadd (a := e_at.toInt) (b := 1) (by rfl) (by decide +kernel) (by omega) (by omega)
                  refine va_put (D := G.1) (ci := 4) (v := .int (e_at + 1)) (ty := .int) (C := RX4) (T := TX4) (N := 8) hx hb hts inG_X4 tyX4 tyX4_ok nmX4 hown hK hP hD hS 3 rfl rfl 6 (by decide +kernel) (hts _ fl_X4_42) (fun _ h9 => h9) rfl (by decide +kernel) rfl rfl (Nat.le_of_ble_eq_true rfl) dX4_readPart_160 ?_
                  clear hP hD hS
                  intro H locs hP hD hS
                  refine g5_rs [(a_nm, (arI G 401 f_nm)), (a_tk, (oc8 a_kd a_nm a_pl)), (a_kd, (arI G 401 f_kd)), (a_r, (oc4 a_tk a_rh a_rs a_rc z122 (e_pa + 1) (e_at + 1) e_fp)), (a_rc, (arI G 400 z123))] hP hD ?_
                  clear hP hD
                  intro hP hD
                  refine lv_iconst (v := 1) hx hb dX4_readPart_163 (by decide +kernel) ?_
                  exact W.zret (v := 1) hx hb hr rfl (fun t ht hW => ⟨⟨1, [(a_r, (oc4 a_tk a_rh a_rs a_rc z122 (e_pa + 1) (e_at + 1) e_fp)), (a_tk, (oc8 a_kd a_nm a_pl)), (a_kd, (arI G 401 f_kd)), (a_nm, (arI G 401 f_nm)), (a_rc, (arI G 400 z123))], rfl, Or.inl (⟨z122, (e_pa + 1), (e_at + 1), z123, ⟨by omega, by omega⟩, ⟨by omega, by omega⟩, ⟨by omega, by omega⟩, i_117, i_118, ⟨_, ow_leaf (fun q9 => i_2 (hK0.trans q9)) hk8 ⟨by omega, by omega⟩ (by omega) (by omega) (by omega), by rw [i_120]; exact kcc_em (by omega), by rw [i_120]; exact mcc_word (by omega) (by omega) ⟨by omega, by omega⟩ (by omega), by rw [i_120]; exact lv_leaf e_lv (by omega) (by omega) (by rw [opT_1 (a := ((z57 - 256) - 8)) ⟨by omega, by omega⟩, g_incC ((z57 - 256) - 8) ⟨by omega, by omega⟩]; omega) (by omega) (by omega)⟩, by omega, rfl, rfl⟩), by rw [ht]; exact hP.sub [3, 1, 2, 0, 4] rfl, hD.sub [3, 1, 2, 0, 4] (by decide +kernel) rfl⟩, hS.F ht⟩) hS.2.2 dX4_readPart_164
            ·
              have i_110 : e_pa.toInt ≥ 50 := g5_ltN (a := e_pa.toInt) (b := 50) rfl (by decide +kernel) c_110
              refine lv_iconst (v := 0) hx hb dX4_readPart_107 (by decide +kernel) ?_
              exact W.zret (v := 0) hx hb hr rfl (fun t ht hW => ⟨⟨0, [(a_r, (oc4 a_tk a_rh a_rs a_rc e_ln e_pa e_at e_fp)), (a_tk, (oc8 a_kd a_nm a_pl)), (a_kd, (arI G 401 f_kd)), (a_nm, (arI G 401 f_nm)), (a_rc, (arI G 400 f_rc))], rfl, Or.inr (⟨e_ln, e_pa, e_at, f_rc, ⟨by omega, by omega⟩, h_e_at, h_e_pa, e_cd, opk_refl, ⟨_, ow_no (fun q9 => i_2 (hK0.trans q9)) (Or.inr (by omega))⟩, by omega, rfl, rfl⟩), by rw [ht]; exact hP.sub [2, 3, 4, 0, 1] rfl, hD.sub [2, 3, 4, 0, 1] (by decide +kernel) rfl⟩, hS.F ht⟩) hS.2.2 dX4_readPart_108
          ·
            exact absurd c_109 (by decide +kernel)
    ·
      exact absurd c_55 (by decide +kernel)
