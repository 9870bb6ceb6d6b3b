set_option maxHeartbeats 4000000 in
set_option maxRecDepth 100000 in
theorem k_word (l : Launch) (G : g5_G) (a_x : Nat) (sz : Nat) (p_a : Int32) (p_t : Int32) (f_x : Nat → Int32) (h_p_a : 0 ≤ p_a.toInt ∧ p_a.toInt ≤ 400) (h_p_t : 0 ≤ p_t.toInt ∧ p_t.toInt ≤ 400) : Met l yX8_wordIn (wsG yX8_wordIn cX8_wordIn 8 (some .int)) ({ frames := 4, cells := 0, slots := 0, locals := 85 }) (va_Pc [.ref a_x, .int p_a, .int p_t] (g5_P G [(a_x, (arI G 400 f_x))] sz)) (va_Qi (fun (r : Int32) (u : va_W) => (∃ (o_r : Int32), (r = o_r) ∧ (u = [(a_x, (arI G 400 f_x))]))) (g5_B G (va_A [(a_x, (arI G 400 f_x))] sz)) (va_A [(a_x, (arI G 400 f_x))] sz)) 0 0 (va_A [(a_x, (arI G 400 f_x))] sz) := by
  refine Met.ofW (cc := cX8_wordIn) (maxL := 8) (ret := (some .int)) (by decide) rfl ?_
  intro p e s m args below meth c s₁ B hml hv
  obtain ⟨rfl, hsz, hP, hK, hD0, hN, hT⟩ := hv
  have hx := B.exec
  have hb := B.bytes
  have hr := B.returns
  have hts : ∀ w ∈ tblG, w.before _ s = true := fun w h => atoms_spec (ws := (wsG yX8_wordIn cX8_wordIn 8 (some .int))) B.pre w (List.mem_cons_of_mem _ h)
  have hown : s.vm.findClass RX8 = some m.cls := findClass_of_methodNamed B.named
  have hlocks := B.notSynchronized
  subst hsz
  have hD := hD0.self (sz := s.heap.size)
  generalize hAe : va_A [(a_x, (arI G 400 f_x))] s.heap.size = A at hD hT ⊢
  have hA : ∀ q : Nat, s.heap.size ≤ q → A q := fun q h => by rw [← hAe]; exact Or.inr h
  have hS : va_S A s.heap s.heap [] := va_S.rf
  have hP : va_P G.1 vwCl [(a_x, (arI G 400 f_x))] s.heap := hP
  have hl := lv_entry ([.ref a_x, .int p_a, .int p_t]) (n := 8) (Nat.le_of_ble_eq_true rfl)
  rw [lg_entry_eq]
  generalize (lg_sl ([.ref a_x, .int p_a, .int p_t]) ++ List.replicate (8 - (lg_sl ([.ref a_x, .int p_a, .int p_t])).length) Slot.unset).toArray = ls at hl ⊢
  have hl : lv_has ls 8 [(0, .ref a_x), (1, .int p_a), (2, .int p_t)] := hl
  obtain ⟨tH, tL, tK, tV, tF, hZH, hTH, hZL, hTL, hRK, hVK, hZC, hZF⟩ := id hT
  refine lv_iconst (v := 0) hx hb dX8_wordIn_0 (by decide) ?_
  refine lv_istore_n (lv' := [(3, .int 0), (0, .ref a_x), (1, .int p_a), (2, .int p_t)]) hx hb dX8_wordIn_1 rfl hl (by decide) rfl (fun ls hl => ?_)
  refine lv_iload_n hx hb dX8_wordIn_2 rfl (lv_at hl 2 rfl) ?_
  refine lv_istore (lv' := [(4, .int p_a), (3, .int 0), (0, .ref a_x), (1, .int p_a), (2, .int p_t)]) hx hb dX8_wordIn_3 hl (by decide) rfl (fun ls hl => ?_)
  refine lv_iconst (v := 1) hx hb dX8_wordIn_5 (by decide) ?_
  refine lv_istore (lv' := [(5, .int 1), (4, .int p_a), (3, .int 0), (0, .ref a_x), (1, .int p_a), (2, .int p_t)]) hx hb dX8_wordIn_6 hl (by decide) rfl (fun ls hl => ?_)
  refine lv_iconst (v := 0) hx hb dX8_wordIn_8 (by decide) ?_
  refine lv_istore (lv' := [(6, .int 0), (5, .int 1), (4, .int p_a), (3, .int 0), (0, .ref a_x), (1, .int p_a), (2, .int p_t)]) hx hb dX8_wordIn_9 hl (by decide) rfl (fun ls hl => ?_)
  refine g5_loop (α := (Int32) × (Int32) × (Int32) × (Int32)) (fun (q : (Int32) × (Int32) × (Int32) × (Int32)) (ls : Array Slot) (H : Heap) (locs : List Loc) => match q with | (k_w, k_a, k_s, k_i) => lv_has ls 8 [(3, .int k_w), (4, .int k_a), (5, .int k_s), (6, .int k_i), (0, .ref a_x), (1, .int p_a), (2, .int p_t)] ∧ va_P G.1 vwCl [(a_x, (arI G 400 f_x))] H ∧ va_D A [(a_x, (arI G 400 f_x))] ∧ va_S A s.heap H locs ∧ (0 ≤ k_a.toInt ∧ k_a.toInt ≤ 1000) ∧ (0 ≤ k_s.toInt ∧ k_s.toInt ≤ 1) ∧ (0 ≤ k_i.toInt ∧ k_i.toInt ≤ 74) ∧ (k_a.toInt ≤ p_a.toInt + k_i.toInt)) (fun (q : (Int32) × (Int32) × (Int32) × (Int32)) => match q with | (k_w, k_a, k_s, k_i) => Int.toNat (74 - k_i.toInt)) (0, p_a, 1, 0) ⟨lv_sub hl [3, 2, 1, 0, 4, 5, 6] rfl, hP, hD, hS, ⟨by omega, by omega⟩, ⟨by decide, by decide⟩, ⟨by decide, by decide⟩, by have z0 : (0 : Int32).toInt = 0 := (by decide); omega⟩ ?_
  rintro ⟨k_w, k_a, k_s, k_i⟩ ls H locs ⟨hl, hP, hD, hS, i_1, i_2, i_3, i_4⟩ ih_11_5
  have hl : lv_has ls 8 [(3, .int k_w), (4, .int k_a), (5, .int k_s), (6, .int k_i), (0, .ref a_x), (1, .int p_a), (2, .int p_t)] := hl
  have i_1 : 0 ≤ k_a.toInt ∧ k_a.toInt ≤ 1000 := i_1
  have i_2 : 0 ≤ k_s.toInt ∧ k_s.toInt ≤ 1 := i_2
  have i_3 : 0 ≤ k_i.toInt ∧ k_i.toInt ≤ 74 := i_3
  have i_4 : k_a.toInt ≤ p_a.toInt + k_i.toInt := i_4
  refine g5_rs [(a_x, (arI G 400 f_x))] hP hD (fun hP hD => ?_)
  refine lv_iload hx hb dX8_wordIn_11 (lv_at hl 3 rfl) ?_
  refine va_ldcS hx hb hown hRK dX8_wordIn_13 ?_
  obtain ⟨hPc, hDc, hFc⟩ := g5_sub3 (wc := []) hP hD hS hA [] (by decide) rfl
  refine va_calli (va_runV (As := []) (rest := [.int k_i]) ⟨hx, hb, hml, hown, hts⟩ (s_length l G tK tV H.size) (cwV 0 hts gV_X8_43 rfl rfl rfl hv_J0_length_8abf5 ⟨Nat.le_of_ble_eq_true rfl, Nat.le_of_ble_eq_true rfl⟩) (g5_preVK hPc hK hDc hN hT hS hFc hRK hVK) rfl rfl hl.1 rfl (lv_room (Nat.le_of_ble_eq_true rfl)) dX8_wordIn_15 ⟨Nat.le_of_ble_eq_true rfl, Nat.le_of_ble_eq_true rfl⟩) hS (fun q _ h => hFc q h) hFc (fun r u t H1 locs ht hvm hw hB hz1 hk1 hS => ?_)
  obtain ⟨hP1, hD1⟩ := hB
  rw [ht] at hP1
  obtain ⟨rfl, rfl⟩ := hw
  have hP := g5_same hP hk1
  generalize H1 = H at hP hS ⊢
  refine lv_icmp_ge (tgt := 98) hx hb dX8_wordIn_18 (by decide) (fun c_6 => ?_) (fun c_6 => ?_)
  ·
    have i_6 : k_i.toInt ≥ 74 := by have z := g5_ge (a := k_i.toInt) (b := 74) (by rfl) (by decide) c_6; omega
    refine lv_iconst (v := (-1)) hx hb dX8_wordIn_98 (by decide) ?_
    exact W.iret (v := (-1)) hx hb hr (fun t ht hW => ⟨⟨(-1), [(a_x, (arI G 400 f_x))], rfl, ⟨(-1), rfl, rfl⟩, by rw [ht]; exact hP.sub [0] rfl, hD.sub [0] (by decide) rfl⟩, hS.F ht⟩) hS.2.2 dX8_wordIn_99
  ·
    have i_6 : k_i.toInt < 74 := by have z := g5_geN (a := k_i.toInt) (b := 74) (by rfl) (by decide) c_6; omega
    refine va_ldcS hx hb hown hRK dX8_wordIn_21 ?_
    refine lv_iload hx hb dX8_wordIn_23 (lv_at hl 3 rfl) ?_
    obtain ⟨hPc, hDc, hFc⟩ := g5_sub3 (wc := []) hP hD hS hA [] (by decide) rfl
    refine va_calli (va_runV (As := [.int k_i]) (rest := []) ⟨hx, hb, hml, hown, hts⟩ (s_charAt l G tK tV H.size k_i ⟨by omega, by omega⟩) (cwV 1 hts gV_X8_49 rfl rfl rfl hv_J0_charAt_5068e ⟨Nat.le_of_ble_eq_true rfl, Nat.le_of_ble_eq_true rfl⟩) (g5_preVK hPc hK hDc hN hT hS hFc hRK hVK) rfl rfl hl.1 rfl (lv_room (Nat.le_of_ble_eq_true rfl)) dX8_wordIn_25 ⟨Nat.le_of_ble_eq_true rfl, Nat.le_of_ble_eq_true rfl⟩) hS (fun q _ h => hFc q h) hFc (fun r u t H1 locs ht hvm hw hB hz1 hk1 hS => ?_)
    obtain ⟨hP1, hD1⟩ := hB
    rw [ht] at hP1
    obtain ⟨z8, i_7, y9, rfl⟩ := hw
    have i_7 : narrow .char (.int z8) = .int z8 := i_7
    have hP := g5_same hP hk1
    generalize H1 = H at hP hS ⊢
    refine g5_ti (v := z8) y9 ?_
    refine lv_istore (lv' := [(7, .int z8), (3, .int k_w), (4, .int k_a), (5, .int k_s), (6, .int k_i), (0, .ref a_x), (1, .int p_a), (2, .int p_t)]) hx hb dX8_wordIn_28 hl (by decide) rfl (fun ls hl => ?_)
    refine lv_iload hx hb dX8_wordIn_30 (lv_at hl 0 rfl) ?_
    refine lv_bipush (v := 32) hx hb dX8_wordIn_32 (by decide) ?_
    refine lv_icmp_eq (tgt := 70) hx hb dX8_wordIn_34 (by decide) (fun c_10 => ?_) (fun c_10 => ?_)
    ·
      have i_10 : z8.toInt = 32 := by have z := g5_eq (a := z8.toInt) (b := 32) (by rfl) (by decide) c_10; omega
      refine lv_iload hx hb dX8_wordIn_70 (lv_at hl 3 rfl) ?_
      refine lv_if_eq (tgt := 83) hx hb dX8_wordIn_72 (by decide) (fun c_11 => ?_) (fun c_11 => ?_)
      ·
        have i_11 : k_s.toInt = 0 := by have z := g5_eq (a := k_s.toInt) (b := 0) (by rfl) (by decide) c_11; omega
        refine lv_iinc (v := (k_w + 1)) (lv' := [(3, .int (k_w + 1)), (7, .int z8), (4, .int k_a), (5, .int k_s), (6, .int k_i), (0, .ref a_x), (1, .int p_a), (2, .int p_t)]) hx hb dX8_wordIn_83 hl (k := 1) rfl rfl (by decide) rfl (fun ls hl => ?_)
        refine lv_iload_n hx hb dX8_wordIn_86 rfl (lv_at hl 6 rfl) ?_
        refine lv_istore (lv' := [(4, .int p_a), (3, .int (k_w + 1)), (7, .int z8), (5, .int k_s), (6, .int k_i), (0, .ref a_x), (1, .int p_a), (2, .int p_t)]) hx hb dX8_wordIn_87 hl (by decide) rfl (fun ls hl => ?_)
        refine lv_iconst (v := 1) hx hb dX8_wordIn_89 (by decide) ?_
        refine lv_istore (lv' := [(5, .int 1), (4, .int p_a), (3, .int (k_w + 1)), (7, .int z8), (6, .int k_i), (0, .ref a_x), (1, .int p_a), (2, .int p_t)]) hx hb dX8_wordIn_90 hl (by decide) rfl (fun ls hl => ?_)
        refine lv_iinc (v := (k_i + 1)) (lv' := [(6, .int (k_i + 1)), (5, .int 1), (4, .int p_a), (3, .int (k_w + 1)), (7, .int z8), (0, .ref a_x), (1, .int p_a), (2, .int p_t)]) hx hb dX8_wordIn_92 hl (k := 4) rfl rfl (by decide) rfl (fun ls hl => ?_)
        have t_12 : (k_i + 1).toInt = k_i.toInt + 1 := g5_iadd (a := k_i.toInt) (b := 1) rfl (by decide) (by omega) (by omega)
        refine lv_goto (tgt := 11) hx hb dX8_wordIn_95 (by decide) ?_
        exact ih_11_5 ((k_w + 1), p_a, 1, (k_i + 1)) ls H locs (show Int.toNat (74 - (k_i + 1).toInt) < Int.toNat (74 - k_i.toInt) from g_up (show k_i.toInt < (k_i + 1).toInt by omega) (show k_i.toInt < 74 by omega)) ⟨lv_sub hl [3, 2, 1, 0, 5, 6, 7] rfl, hP, hD, hS, ⟨by omega, by omega⟩, ⟨by decide, by decide⟩, ⟨by omega, by omega⟩, by omega⟩
      ·
        have n_11 : gNe (k_s.toInt) (0) := by have z := g5_eqN (a := k_s.toInt) (b := 0) (by rfl) (by decide) c_11; unfold gNe; omega
        have i_11 : k_s.toInt ≥ 1 := by have z := g5_eqN (a := k_s.toInt) (b := 0) (by rfl) (by decide) c_11; omega
        refine lv_iload hx hb dX8_wordIn_75 (lv_at hl 2 rfl) ?_
        refine lv_iload_n hx hb dX8_wordIn_77 rfl (lv_at hl 7 rfl) ?_
        refine lv_icmp_ne (tgt := 83) hx hb dX8_wordIn_78 (by decide) (fun c_13 => ?_) (fun c_13 => ?_)
        ·
          have n_13 : gNe (k_a.toInt) (p_t.toInt) := by have z := g5_ne (a := k_a.toInt) (b := p_t.toInt) (by rfl) (by rfl) c_13; unfold gNe; omega
          refine lv_iinc (v := (k_w + 1)) (lv' := [(3, .int (k_w + 1)), (7, .int z8), (4, .int k_a), (5, .int k_s), (6, .int k_i), (0, .ref a_x), (1, .int p_a), (2, .int p_t)]) hx hb dX8_wordIn_83 hl (k := 1) rfl rfl (by decide) rfl (fun ls hl => ?_)
          refine lv_iload_n hx hb dX8_wordIn_86 rfl (lv_at hl 6 rfl) ?_
          refine lv_istore (lv' := [(4, .int p_a), (3, .int (k_w + 1)), (7, .int z8), (5, .int k_s), (6, .int k_i), (0, .ref a_x), (1, .int p_a), (2, .int p_t)]) hx hb dX8_wordIn_87 hl (by decide) rfl (fun ls hl => ?_)
          refine lv_iconst (v := 1) hx hb dX8_wordIn_89 (by decide) ?_
          refine lv_istore (lv' := [(5, .int 1), (4, .int p_a), (3, .int (k_w + 1)), (7, .int z8), (6, .int k_i), (0, .ref a_x), (1, .int p_a), (2, .int p_t)]) hx hb dX8_wordIn_90 hl (by decide) rfl (fun ls hl => ?_)
          refine lv_iinc (v := (k_i + 1)) (lv' := [(6, .int (k_i + 1)), (5, .int 1), (4, .int p_a), (3, .int (k_w + 1)), (7, .int z8), (0, .ref a_x), (1, .int p_a), (2, .int p_t)]) hx hb dX8_wordIn_92 hl (k := 4) rfl rfl (by decide) rfl (fun ls hl => ?_)
          have t_14 : (k_i + 1).toInt = k_i.toInt + 1 := g5_iadd (a := k_i.toInt) (b := 1) rfl (by decide) (by omega) (by omega)
          refine lv_goto (tgt := 11) hx hb dX8_wordIn_95 (by decide) ?_
          exact ih_11_5 ((k_w + 1), p_a, 1, (k_i + 1)) ls H locs (show Int.toNat (74 - (k_i + 1).toInt) < Int.toNat (74 - k_i.toInt) from g_up (show k_i.toInt < (k_i + 1).toInt by omega) (show k_i.toInt < 74 by omega)) ⟨lv_sub hl [3, 2, 1, 0, 5, 6, 7] rfl, hP, hD, hS, ⟨by omega, by omega⟩, ⟨by decide, by decide⟩, ⟨by omega, by omega⟩, by omega⟩
        ·
          have i_13 : k_a.toInt = p_t.toInt := by have z := g5_neN (a := k_a.toInt) (b := p_t.toInt) (by rfl) (by rfl) c_13; omega
          refine lv_iload_n hx hb dX8_wordIn_81 rfl (lv_at hl 1 rfl) ?_
          exact W.iret (v := k_w) hx hb hr (fun t ht hW => ⟨⟨k_w, [(a_x, (arI G 400 f_x))], rfl, ⟨k_w, rfl, rfl⟩, by rw [ht]; exact hP.sub [0] rfl, hD.sub [0] (by decide) rfl⟩, hS.F ht⟩) hS.2.2 dX8_wordIn_82
    ·
      have n_10 : gNe (z8.toInt) (32) := by have z := g5_eqN (a := z8.toInt) (b := 32) (by rfl) (by decide) c_10; unfold gNe; omega
      refine lv_iload hx hb dX8_wordIn_37 (lv_at hl 3 rfl) ?_
      refine lv_if_eq (tgt := 61) hx hb dX8_wordIn_39 (by decide) (fun c_15 => ?_) (fun c_15 => ?_)
      ·
        have i_15 : k_s.toInt = 0 := by have z := g5_eq (a := k_s.toInt) (b := 0) (by rfl) (by decide) c_15; omega
        refine lv_iconst (v := 0) hx hb dX8_wordIn_61 (by decide) ?_
        refine lv_istore (lv' := [(5, .int 0), (7, .int z8), (3, .int k_w), (4, .int k_a), (6, .int k_i), (0, .ref a_x), (1, .int p_a), (2, .int p_t)]) hx hb dX8_wordIn_62 hl (by decide) rfl (fun ls hl => ?_)
        refine lv_iinc (v := (k_a + 1)) (lv' := [(4, .int (k_a + 1)), (5, .int 0), (7, .int z8), (3, .int k_w), (6, .int k_i), (0, .ref a_x), (1, .int p_a), (2, .int p_t)]) hx hb dX8_wordIn_64 hl (k := 3) rfl rfl (by decide) rfl (fun ls hl => ?_)
        have t_16 : (k_a + 1).toInt = k_a.toInt + 1 := g5_iadd (a := k_a.toInt) (b := 1) rfl (by decide) (by omega) (by omega)
        refine lv_goto (tgt := 92) hx hb dX8_wordIn_67 (by decide) ?_
        refine lv_iinc (v := (k_i + 1)) (lv' := [(6, .int (k_i + 1)), (4, .int (k_a + 1)), (5, .int 0), (7, .int z8), (3, .int k_w), (0, .ref a_x), (1, .int p_a), (2, .int p_t)]) hx hb dX8_wordIn_92 hl (k := 4) rfl rfl (by decide) rfl (fun ls hl => ?_)
        have t_17 : (k_i + 1).toInt = k_i.toInt + 1 := g5_iadd (a := k_i.toInt) (b := 1) rfl (by decide) (by omega) (by omega)
        refine lv_goto (tgt := 11) hx hb dX8_wordIn_95 (by decide) ?_
        exact ih_11_5 (k_w, (k_a + 1), 0, (k_i + 1)) ls H locs (show Int.toNat (74 - (k_i + 1).toInt) < Int.toNat (74 - k_i.toInt) from g_up (show k_i.toInt < (k_i + 1).toInt by omega) (show k_i.toInt < 74 by omega)) ⟨lv_sub hl [4, 1, 2, 0, 5, 6, 7] rfl, hP, hD, hS, ⟨by omega, by omega⟩, ⟨by decide, by decide⟩, ⟨by omega, by omega⟩, by omega⟩
      ·
        have n_15 : gNe (k_s.toInt) (0) := by have z := g5_eqN (a := k_s.toInt) (b := 0) (by rfl) (by decide) c_15; unfold gNe; omega
        have i_15 : k_s.toInt ≥ 1 := by have z := g5_eqN (a := k_s.toInt) (b := 0) (by rfl) (by decide) c_15; omega
        refine lv_iload hx hb dX8_wordIn_42 (lv_at hl 2 rfl) ?_
        refine lv_iload_n hx hb dX8_wordIn_44 rfl (lv_at hl 7 rfl) ?_
        refine lv_icmp_ge (tgt := 61) hx hb dX8_wordIn_45 (by decide) (fun c_18 => ?_) (fun c_18 => ?_)
        ·
          have i_18 : k_a.toInt ≥ p_t.toInt := by have z := g5_ge (a := k_a.toInt) (b := p_t.toInt) (by rfl) (by rfl) c_18; omega
          refine lv_iconst (v := 0) hx hb dX8_wordIn_61 (by decide) ?_
          refine lv_istore (lv' := [(5, .int 0), (7, .int z8), (3, .int k_w), (4, .int k_a), (6, .int k_i), (0, .ref a_x), (1, .int p_a), (2, .int p_t)]) hx hb dX8_wordIn_62 hl (by decide) rfl (fun ls hl => ?_)
          refine lv_iinc (v := (k_a + 1)) (lv' := [(4, .int (k_a + 1)), (5, .int 0), (7, .int z8), (3, .int k_w), (6, .int k_i), (0, .ref a_x), (1, .int p_a), (2, .int p_t)]) hx hb dX8_wordIn_64 hl (k := 3) rfl rfl (by decide) rfl (fun ls hl => ?_)
          have t_19 : (k_a + 1).toInt = k_a.toInt + 1 := g5_iadd (a := k_a.toInt) (b := 1) rfl (by decide) (by omega) (by omega)
          refine lv_goto (tgt := 92) hx hb dX8_wordIn_67 (by decide) ?_
          refine lv_iinc (v := (k_i + 1)) (lv' := [(6, .int (k_i + 1)), (4, .int (k_a + 1)), (5, .int 0), (7, .int z8), (3, .int k_w), (0, .ref a_x), (1, .int p_a), (2, .int p_t)]) hx hb dX8_wordIn_92 hl (k := 4) rfl rfl (by decide) rfl (fun ls hl => ?_)
          have t_20 : (k_i + 1).toInt = k_i.toInt + 1 := g5_iadd (a := k_i.toInt) (b := 1) rfl (by decide) (by omega) (by omega)
          refine lv_goto (tgt := 11) hx hb dX8_wordIn_95 (by decide) ?_
          exact ih_11_5 (k_w, (k_a + 1), 0, (k_i + 1)) ls H locs (show Int.toNat (74 - (k_i + 1).toInt) < Int.toNat (74 - k_i.toInt) from g_up (show k_i.toInt < (k_i + 1).toInt by omega) (show k_i.toInt < 74 by omega)) ⟨lv_sub hl [4, 1, 2, 0, 5, 6, 7] rfl, hP, hD, hS, ⟨by omega, by omega⟩, ⟨by decide, by decide⟩, ⟨by omega, by omega⟩, by omega⟩
        ·
          have i_18 : k_a.toInt < p_t.toInt := by have z := g5_geN (a := k_a.toInt) (b := p_t.toInt) (by rfl) (by rfl) c_18; omega
          refine lv_aload_n hx hb dX8_wordIn_48 rfl (lv_at hl 5 rfl) ?_
          refine lv_iload hx hb dX8_wordIn_49 (lv_at hl 2 rfl) ?_
          refine va_iald hx hb hK hP 0 0 rfl rfl (i := k_a) (vp_in_iff.mpr ⟨by omega, by omega⟩) dX8_wordIn_51 ?_
          refine lv_iload hx hb dX8_wordIn_52 (lv_at hl 0 rfl) ?_
          refine lv_icmp_ne (tgt := 61) hx hb dX8_wordIn_54 (by decide) (fun c_21 => ?_) (fun c_21 => ?_)
          ·
            have n_21 : gNe ((f_x k_a.toNatClampNeg).toInt) (z8.toInt) := by have z := g5_ne (a := (f_x k_a.toNatClampNeg).toInt) (b := z8.toInt) (by rfl) (by rfl) c_21; unfold gNe; omega
            refine lv_iconst (v := 0) hx hb dX8_wordIn_61 (by decide) ?_
            refine lv_istore (lv' := [(5, .int 0), (7, .int z8), (3, .int k_w), (4, .int k_a), (6, .int k_i), (0, .ref a_x), (1, .int p_a), (2, .int p_t)]) hx hb dX8_wordIn_62 hl (by decide) rfl (fun ls hl => ?_)
            refine lv_iinc (v := (k_a + 1)) (lv' := [(4, .int (k_a + 1)), (5, .int 0), (7, .int z8), (3, .int k_w), (6, .int k_i), (0, .ref a_x), (1, .int p_a), (2, .int p_t)]) hx hb dX8_wordIn_64 hl (k := 3) rfl rfl (by decide) rfl (fun ls hl => ?_)
            have t_22 : (k_a + 1).toInt = k_a.toInt + 1 := g5_iadd (a := k_a.toInt) (b := 1) rfl (by decide) (by omega) (by omega)
            refine lv_goto (tgt := 92) hx hb dX8_wordIn_67 (by decide) ?_
            refine lv_iinc (v := (k_i + 1)) (lv' := [(6, .int (k_i + 1)), (4, .int (k_a + 1)), (5, .int 0), (7, .int z8), (3, .int k_w), (0, .ref a_x), (1, .int p_a), (2, .int p_t)]) hx hb dX8_wordIn_92 hl (k := 4) rfl rfl (by decide) rfl (fun ls hl => ?_)
            have t_23 : (k_i + 1).toInt = k_i.toInt + 1 := g5_iadd (a := k_i.toInt) (b := 1) rfl (by decide) (by omega) (by omega)
            refine lv_goto (tgt := 11) hx hb dX8_wordIn_95 (by decide) ?_
            exact ih_11_5 (k_w, (k_a + 1), 0, (k_i + 1)) ls H locs (show Int.toNat (74 - (k_i + 1).toInt) < Int.toNat (74 - k_i.toInt) from g_up (show k_i.toInt < (k_i + 1).toInt by omega) (show k_i.toInt < 74 by omega)) ⟨lv_sub hl [4, 1, 2, 0, 5, 6, 7] rfl, hP, hD, hS, ⟨by omega, by omega⟩, ⟨by decide, by decide⟩, ⟨by omega, by omega⟩, by omega⟩
          ·
            have i_21 : (f_x k_a.toNatClampNeg).toInt = z8.toInt := by have z := g5_neN (a := (f_x k_a.toNatClampNeg).toInt) (b := z8.toInt) (by rfl) (by rfl) c_21; omega
            refine lv_iconst (v := 1) hx hb dX8_wordIn_57 (by decide) ?_
            refine lv_goto (tgt := 62) hx hb dX8_wordIn_58 (by decide) ?_
            refine lv_istore (lv' := [(5, .int 1), (7, .int z8), (3, .int k_w), (4, .int k_a), (6, .int k_i), (0, .ref a_x), (1, .int p_a), (2, .int p_t)]) hx hb dX8_wordIn_62 hl (by decide) rfl (fun ls hl => ?_)
            refine lv_iinc (v := (k_a + 1)) (lv' := [(4, .int (k_a + 1)), (5, .int 1), (7, .int z8), (3, .int k_w), (6, .int k_i), (0, .ref a_x), (1, .int p_a), (2, .int p_t)]) hx hb dX8_wordIn_64 hl (k := 3) rfl rfl (by decide) rfl (fun ls hl => ?_)
            have t_24 : (k_a + 1).toInt = k_a.toInt + 1 := g5_iadd (a := k_a.toInt) (b := 1) rfl (by decide) (by omega) (by omega)
            refine lv_goto (tgt := 92) hx hb dX8_wordIn_67 (by decide) ?_
            refine lv_iinc (v := (k_i + 1)) (lv' := [(6, .int (k_i + 1)), (4, .int (k_a + 1)), (5, .int 1), (7, .int z8), (3, .int k_w), (0, .ref a_x), (1, .int p_a), (2, .int p_t)]) hx hb dX8_wordIn_92 hl (k := 4) rfl rfl (by decide) rfl (fun ls hl => ?_)
            have t_25 : (k_i + 1).toInt = k_i.toInt + 1 := g5_iadd (a := k_i.toInt) (b := 1) rfl (by decide) (by omega) (by omega)
            refine lv_goto (tgt := 11) hx hb dX8_wordIn_95 (by decide) ?_
            exact ih_11_5 (k_w, (k_a + 1), 1, (k_i + 1)) ls H locs (show Int.toNat (74 - (k_i + 1).toInt) < Int.toNat (74 - k_i.toInt) from g_up (show k_i.toInt < (k_i + 1).toInt by omega) (show k_i.toInt < 74 by omega)) ⟨lv_sub hl [4, 1, 2, 0, 5, 6, 7] rfl, hP, hD, hS, ⟨by omega, by omega⟩, ⟨by decide, by decide⟩, ⟨by omega, by omega⟩, by omega⟩
theorem dgX8_kindOf_0 : ∀ r ∈ ([(0, (.aload_n 0, 1)), (1, (.iload_n 1, 1)), (2, (.iaload, 1)), (3, (.invokestatic 25, 3)), (6, (.ifCond .eq 25, 3)), (9, (.aload_n 0, 1)), (10, (.iload_n 1, 1)), (11, (.iload_n 2, 1)), (12, (.invokestatic 29, 3)), (15, (.sipush 1000, 3)), (18, (.if_icmp .gt 9, 3)), (21, (.sipush 300, 3)), (24, (.goto 6, 3)), (27, (.sipush 301, 3)), (30, (.ireturn, 1)), (31, (.aload_n 0, 1)), (32, (.iload_n 1, 1)), (33, (.iaload, 1)), (34, (.invokestatic 35, 3)), (37, (.ifCond .eq 27, 3)), (40, (.aload_n 0, 1)), (41, (.iload_n 1, 1)), (42, (.iload_n 2, 1)), (43, (.invokestatic 38, 3)), (46, (.istore_n 3, 1)), (47, (.iload_n 3, 1)), (48, (.iconst (-1), 1)), (49, (.if_icmp .ne 9, 3)), (52, (.sipush 301, 3)), (55, (.goto 8, 3)), (58, (.sipush 256, 3)), (61, (.iload_n 3, 1)), (62, (.iadd, 1)), (63, (.ireturn, 1)), (64, (.aload_n 0, 1)), (65, (.iload_n 1, 1)), (66, (.iaload, 1)), (67, (.ireturn, 1))] : List (Nat × (Instr × Nat))), decode cX8_kindOf r.1 = .ok r.2 := by decide +kernel
theorem dX8_kindOf_0 : decode cX8_kindOf 0 = .ok (.aload_n 0, 1) := dgX8_kindOf_0 (0, (.aload_n 0, 1)) (List.mem_of_getElem? (i := 0) rfl)
theorem dX8_kindOf_1 : decode cX8_kindOf 1 = .ok (.iload_n 1, 1) := dgX8_kindOf_0 (1, (.iload_n 1, 1)) (List.mem_of_getElem? (i := 1) rfl)
theorem dX8_kindOf_2 : decode cX8_kindOf 2 = .ok (.iaload, 1) := dgX8_kindOf_0 (2, (.iaload, 1)) (List.mem_of_getElem? (i := 2) rfl)
theorem dX8_kindOf_3 : decode cX8_kindOf 3 = .ok (.invokestatic 25, 3) := dgX8_kindOf_0 (3, (.invokestatic 25, 3)) (List.mem_of_getElem? (i := 3) rfl)
theorem dX8_kindOf_6 : decode cX8_kindOf 6 = .ok (.ifCond .eq 25, 3) := dgX8_kindOf_0 (6, (.ifCond .eq 25, 3)) (List.mem_of_getElem? (i := 4) rfl)
theorem dX8_kindOf_9 : decode cX8_kindOf 9 = .ok (.aload_n 0, 1) := dgX8_kindOf_0 (9, (.aload_n 0, 1)) (List.mem_of_getElem? (i := 5) rfl)
theorem dX8_kindOf_10 : decode cX8_kindOf 10 = .ok (.iload_n 1, 1) := dgX8_kindOf_0 (10, (.iload_n 1, 1)) (List.mem_of_getElem? (i := 6) rfl)
theorem dX8_kindOf_11 : decode cX8_kindOf 11 = .ok (.iload_n 2, 1) := dgX8_kindOf_0 (11, (.iload_n 2, 1)) (List.mem_of_getElem? (i := 7) rfl)
theorem dX8_kindOf_12 : decode cX8_kindOf 12 = .ok (.invokestatic 29, 3) := dgX8_kindOf_0 (12, (.invokestatic 29, 3)) (List.mem_of_getElem? (i := 8) rfl)
theorem dX8_kindOf_15 : decode cX8_kindOf 15 = .ok (.sipush 1000, 3) := dgX8_kindOf_0 (15, (.sipush 1000, 3)) (List.mem_of_getElem? (i := 9) rfl)
theorem dX8_kindOf_18 : decode cX8_kindOf 18 = .ok (.if_icmp .gt 9, 3) := dgX8_kindOf_0 (18, (.if_icmp .gt 9, 3)) (List.mem_of_getElem? (i := 10) rfl)
theorem dX8_kindOf_21 : decode cX8_kindOf 21 = .ok (.sipush 300, 3) := dgX8_kindOf_0 (21, (.sipush 300, 3)) (List.mem_of_getElem? (i := 11) rfl)
theorem dX8_kindOf_24 : decode cX8_kindOf 24 = .ok (.goto 6, 3) := dgX8_kindOf_0 (24, (.goto 6, 3)) (List.mem_of_getElem? (i := 12) rfl)
theorem dX8_kindOf_27 : decode cX8_kindOf 27 = .ok (.sipush 301, 3) := dgX8_kindOf_0 (27, (.sipush 301, 3)) (List.mem_of_getElem? (i := 13) rfl)
theorem dX8_kindOf_30 : decode cX8_kindOf 30 = .ok (.ireturn, 1) := dgX8_kindOf_0 (30, (.ireturn, 1)) (List.mem_of_getElem? (i := 14) rfl)
theorem dX8_kindOf_31 : decode cX8_kindOf 31 = .ok (.aload_n 0, 1) := dgX8_kindOf_0 (31, (.aload_n 0, 1)) (List.mem_of_getElem? (i := 15) rfl)
theorem dX8_kindOf_32 : decode cX8_kindOf 32 = .ok (.iload_n 1, 1) := dgX8_kindOf_0 (32, (.iload_n 1, 1)) (List.mem_of_getElem? (i := 16) rfl)
theorem dX8_kindOf_33 : decode cX8_kindOf 33 = .ok (.iaload, 1) := dgX8_kindOf_0 (33, (.iaload, 1)) (List.mem_of_getElem? (i := 17) rfl)
theorem dX8_kindOf_34 : decode cX8_kindOf 34 = .ok (.invokestatic 35, 3) := dgX8_kindOf_0 (34, (.invokestatic 35, 3)) (List.mem_of_getElem? (i := 18) rfl)
theorem dX8_kindOf_37 : decode cX8_kindOf 37 = .ok (.ifCond .eq 27, 3) := dgX8_kindOf_0 (37, (.ifCond .eq 27, 3)) (List.mem_of_getElem? (i := 19) rfl)
theorem dX8_kindOf_40 : decode cX8_kindOf 40 = .ok (.aload_n 0, 1) := dgX8_kindOf_0 (40, (.aload_n 0, 1)) (List.mem_of_getElem? (i := 20) rfl)
theorem dX8_kindOf_41 : decode cX8_kindOf 41 = .ok (.iload_n 1, 1) := dgX8_kindOf_0 (41, (.iload_n 1, 1)) (List.mem_of_getElem? (i := 21) rfl)
theorem dX8_kindOf_42 : decode cX8_kindOf 42 = .ok (.iload_n 2, 1) := dgX8_kindOf_0 (42, (.iload_n 2, 1)) (List.mem_of_getElem? (i := 22) rfl)
theorem dX8_kindOf_43 : decode cX8_kindOf 43 = .ok (.invokestatic 38, 3) := dgX8_kindOf_0 (43, (.invokestatic 38, 3)) (List.mem_of_getElem? (i := 23) rfl)
theorem dX8_kindOf_46 : decode cX8_kindOf 46 = .ok (.istore_n 3, 1) := dgX8_kindOf_0 (46, (.istore_n 3, 1)) (List.mem_of_getElem? (i := 24) rfl)
theorem dX8_kindOf_47 : decode cX8_kindOf 47 = .ok (.iload_n 3, 1) := dgX8_kindOf_0 (47, (.iload_n 3, 1)) (List.mem_of_getElem? (i := 25) rfl)
theorem dX8_kindOf_48 : decode cX8_kindOf 48 = .ok (.iconst (-1), 1) := dgX8_kindOf_0 (48, (.iconst (-1), 1)) (List.mem_of_getElem? (i := 26) rfl)
theorem dX8_kindOf_49 : decode cX8_kindOf 49 = .ok (.if_icmp .ne 9, 3) := dgX8_kindOf_0 (49, (.if_icmp .ne 9, 3)) (List.mem_of_getElem? (i := 27) rfl)
theorem dX8_kindOf_52 : decode cX8_kindOf 52 = .ok (.sipush 301, 3) := dgX8_kindOf_0 (52, (.sipush 301, 3)) (List.mem_of_getElem? (i := 28) rfl)
theorem dX8_kindOf_55 : decode cX8_kindOf 55 = .ok (.goto 8, 3) := dgX8_kindOf_0 (55, (.goto 8, 3)) (List.mem_of_getElem? (i := 29) rfl)
theorem dX8_kindOf_58 : decode cX8_kindOf 58 = .ok (.sipush 256, 3) := dgX8_kindOf_0 (58, (.sipush 256, 3)) (List.mem_of_getElem? (i := 30) rfl)
theorem dX8_kindOf_61 : decode cX8_kindOf 61 = .ok (.iload_n 3, 1) := dgX8_kindOf_0 (61, (.iload_n 3, 1)) (List.mem_of_getElem? (i := 31) rfl)
theorem dX8_kindOf_62 : decode cX8_kindOf 62 = .ok (.iadd, 1) := dgX8_kindOf_0 (62, (.iadd, 1)) (List.mem_of_getElem? (i := 32) rfl)
theorem dX8_kindOf_63 : decode cX8_kindOf 63 = .ok (.ireturn, 1) := dgX8_kindOf_0 (63, (.ireturn, 1)) (List.mem_of_getElem? (i := 33) rfl)
theorem dX8_kindOf_64 : decode cX8_kindOf 64 = .ok (.aload_n 0, 1) := dgX8_kindOf_0 (64, (.aload_n 0, 1)) (List.mem_of_getElem? (i := 34) rfl)
theorem dX8_kindOf_65 : decode cX8_kindOf 65 = .ok (.iload_n 1, 1) := dgX8_kindOf_0 (65, (.iload_n 1, 1)) (List.mem_of_getElem? (i := 35) rfl)
theorem dX8_kindOf_66 : decode cX8_kindOf 66 = .ok (.iaload, 1) := dgX8_kindOf_0 (66, (.iaload, 1)) (List.mem_of_getElem? (i := 36) rfl)
theorem dX8_kindOf_67 : decode cX8_kindOf 67 = .ok (.ireturn, 1) := dgX8_kindOf_0 (67, (.ireturn, 1)) (List.mem_of_getElem? (i := 37) rfl)
theorem ml_X8_29 : Cond.methodLink RX8 29 yX8_numberIn ∈ tblG := tg 658 (by decide +kernel) (by decide +kernel)
theorem st_X8_numberIn : Cond.static yX8_numberIn ∈ tblG := tg 659 (by decide +kernel) (by decide +kernel)
theorem cd_X8_numberIn : Cond.code yX8_numberIn cX8_numberIn 5 (some .int) ∈ tblG := tg 660 (by decide +kernel) (by decide +kernel)
theorem gW_X8_numberIn : GoodIn tblG (wsG yX8_numberIn cX8_numberIn 5 (some .int)) := tgi cd_X8_numberIn
theorem gS_X8_29 : GoodIn tblG (va_wsS RX8 29 yX8_numberIn (wsG yX8_numberIn cX8_numberIn 5 (some .int))) := tgS ml_X8_29 st_X8_numberIn ini_X8 gW_X8_numberIn
theorem hs_X8_numberIn : yX8_numberIn.cls ≠ "java/lang/invoke/MethodHandle" ∧ yX8_numberIn.cls ≠ "java/lang/invoke/VarHandle" ∧ (parseMethodDescriptor yX8_numberIn.desc).map (fun d => d.parameters.length) = some 3 := by decide +kernel
theorem ml_X8_38 : Cond.methodLink RX8 38 yX8_wordIn ∈ tblG := tg 664 (by decide +kernel) (by decide +kernel)
theorem st_X8_wordIn : Cond.static yX8_wordIn ∈ tblG := tg 665 (by decide +kernel) (by decide +kernel)
theorem cd_X8_wordIn : Cond.code yX8_wordIn cX8_wordIn 8 (some .int) ∈ tblG := tg 666 (by decide +kernel) (by decide +kernel)
theorem gW_X8_wordIn : GoodIn tblG (wsG yX8_wordIn cX8_wordIn 8 (some .int)) := tgi cd_X8_wordIn
theorem gS_X8_38 : GoodIn tblG (va_wsS RX8 38 yX8_wordIn (wsG yX8_wordIn cX8_wordIn 8 (some .int))) := tgS ml_X8_38 st_X8_wordIn ini_X8 gW_X8_wordIn
theorem hs_X8_wordIn : yX8_wordIn.cls ≠ "java/lang/invoke/MethodHandle" ∧ yX8_wordIn.cls ≠ "java/lang/invoke/VarHandle" ∧ (parseMethodDescriptor yX8_wordIn.desc).map (fun d => d.parameters.length) = some 3 := by decide +kernel
set_option maxHeartbeats 4000000 in
set_option maxRecDepth 100000 in
theorem k_kindOf (l : Launch) (G : g5_G) (a_x : Nat) (sz : Nat) (p_a : Int32) (p_t : Int32) (f_x : Nat → Int32) (h_p_a : 0 ≤ p_a.toInt ∧ p_a.toInt ≤ 399) (h_p_t : 0 ≤ p_t.toInt ∧ p_t.toInt ≤ 400) : Met l yX8_kindOf (wsG yX8_kindOf cX8_kindOf 4 (some .int)) ({ frames := 5, cells := 0, slots := 0, locals := 112 }) (va_Pc [.ref a_x, .int p_a, .int p_t] (g5_P G [(a_x, (arI G 400 f_x))] sz)) (va_Qi (fun (r : Int32) (u : va_W) => (∃ (o_r : Int32), (48 ≤ (f_x p_a.toNatClampNeg).toInt ∧ (f_x p_a.toNatClampNeg).toInt ≤ 57 → o_r = 300 → (nmbO f_x p_a p_t 0).toInt ≤ 1000) ∧ (r = o_r) ∧ (u = [(a_x, (arI G 400 f_x))]))) (g5_B G (va_A [(a_x, (arI G 400 f_x))] sz)) (va_A [(a_x, (arI G 400 f_x))] sz)) 0 0 (va_A [(a_x, (arI G 400 f_x))] sz) := by
  refine Met.ofW (cc := cX8_kindOf) (maxL := 4) (ret := (some .int)) (by decide) rfl ?_
  intro p e s m args below meth c s₁ B hml hv
  obtain ⟨rfl, hsz, hP, hK, hD0, hN, hT⟩ := hv
  have hx := B.exec
  have hb := B.bytes
  have hr := B.returns
  have hts : ∀ w ∈ tblG, w.before _ s = true := fun w h => atoms_spec (ws := (wsG yX8_kindOf cX8_kindOf 4 (some .int))) B.pre w (List.mem_cons_of_mem _ h)
  have hown : s.vm.findClass RX8 = some m.cls := findClass_of_methodNamed B.named
  have hlocks := B.notSynchronized
  subst hsz
  have hD := hD0.self (sz := s.heap.size)
  generalize hAe : va_A [(a_x, (arI G 400 f_x))] s.heap.size = A at hD hT ⊢
  have hA : ∀ q : Nat, s.heap.size ≤ q → A q := fun q h => by rw [← hAe]; exact Or.inr h
  have hS : va_S A s.heap s.heap [] := va_S.rf
  have hP : va_P G.1 vwCl [(a_x, (arI G 400 f_x))] s.heap := hP
  have hl := lv_entry ([.ref a_x, .int p_a, .int p_t]) (n := 4) (Nat.le_of_ble_eq_true rfl)
  rw [lg_entry_eq]
  generalize (lg_sl ([.ref a_x, .int p_a, .int p_t]) ++ List.replicate (4 - (lg_sl ([.ref a_x, .int p_a, .int p_t])).length) Slot.unset).toArray = ls at hl ⊢
  have hl : lv_has ls 4 [(0, .ref a_x), (1, .int p_a), (2, .int p_t)] := hl
  refine lv_aload_n hx hb dX8_kindOf_0 rfl (lv_at hl 0 rfl) ?_
  refine lv_iload_n hx hb dX8_kindOf_1 rfl (lv_at hl 1 rfl) ?_
  refine va_iald hx hb hK hP 0 0 rfl rfl (i := p_a) (vp_in_iff.mpr ⟨by omega, by omega⟩) dX8_kindOf_2 ?_
  obtain ⟨hPc, hDc, hFc⟩ := g5_sub3 (wc := []) hP hD hS hA [] (by decide) rfl
  refine va_calli (va_runS (As := [.int (f_x p_a.toNatClampNeg)]) (rest := []) ⟨hx, hb, hml, hown, hts⟩ (k_digit l G s.heap.size (f_x p_a.toNatClampNeg)) (va_cwS 1 hts gS_X8_25 rfl rfl rfl hs_X8_isDigit ⟨Nat.le_of_ble_eq_true rfl, Nat.le_of_ble_eq_true rfl⟩) (g5_preS hPc hK hDc hN hT hS hFc) rfl rfl hl.1 rfl (lv_room (Nat.le_of_ble_eq_true rfl)) dX8_kindOf_3 ⟨Nat.le_of_ble_eq_true rfl, Nat.le_of_ble_eq_true rfl⟩) hS (fun q _ h => hFc q h) hFc (fun r u t H1 locs ht hvm hw hB hz1 hk1 hS => ?_)
  obtain ⟨hP1, hD1⟩ := hB
  rw [ht] at hP1
  rcases hw with ⟨i_1, rfl, rfl⟩ | ⟨i_2, rfl, rfl⟩
  ·
    have i_1 : 48 ≤ (f_x p_a.toNatClampNeg).toInt ∧ (f_x p_a.toNatClampNeg).toInt ≤ 57 := i_1
    have hP := g5_same hP hk1
    generalize H1 = H at hP hS ⊢
    refine lv_if_eq (tgt := 31) hx hb dX8_kindOf_6 (by decide) (fun c_3 => ?_) (fun c_3 => ?_)
    ·
      exact absurd c_3 (by decide)
    ·
      refine lv_aload_n hx hb dX8_kindOf_9 rfl (lv_at hl 0 rfl) ?_
      refine lv_iload_n hx hb dX8_kindOf_10 rfl (lv_at hl 1 rfl) ?_
      refine lv_iload_n hx hb dX8_kindOf_11 rfl (lv_at hl 2 rfl) ?_
      obtain ⟨hPc, hDc, hFc⟩ := g5_sub3 (wc := [(a_x, (arI G 400 f_x))]) hP hD hS hA [0] (by decide) rfl
      refine va_calli (va_runS (As := [.ref a_x, .int p_a, .int p_t]) (rest := []) ⟨hx, hb, hml, hown, hts⟩ (k_number l G a_x H.size p_a p_t f_x ⟨by omega, by omega⟩ h_p_t) (va_cwS 3 hts gS_X8_29 rfl rfl rfl hs_X8_numberIn ⟨Nat.le_of_ble_eq_true rfl, Nat.le_of_ble_eq_true rfl⟩) (g5_preS hPc hK hDc hN hT hS hFc) rfl rfl hl.1 rfl (lv_room (Nat.le_of_ble_eq_true rfl)) dX8_kindOf_12 ⟨Nat.le_of_ble_eq_true rfl, Nat.le_of_ble_eq_true rfl⟩) hS (fun q _ h => hFc q h) hFc (fun r u t H1 locs ht hvm hw hB hz1 hk1 hS => ?_)
      obtain ⟨hP1, hD1⟩ := hB
      rw [ht] at hP1
      obtain ⟨z5, i_4, y6, rfl⟩ := hw
      have i_4 : z5 = nmbO f_x p_a p_t 0 := i_4
      obtain ⟨hP, hD⟩ := va_join (wr := []) hP hD [0] [] rfl rfl (by decide) (by decide) hk1 hFc hP1 hD1
      generalize H1 = H at hP hS ⊢
      refine g5_rs [(a_x, (arI G 400 f_x))] hP hD (fun hP hD => ?_)
      refine g5_ti (v := z5) y6 ?_
      refine lv_sipush (v := 1000) hx hb dX8_kindOf_15 (by decide) ?_
      refine lv_icmp_gt (tgt := 27) hx hb dX8_kindOf_18 (by decide) (fun c_7 => ?_) (fun c_7 => ?_)
      ·
        have i_7 : z5.toInt > 1000 := by have z := g5_gt (a := z5.toInt) (b := 1000) (by rfl) (by decide) c_7; omega
        refine lv_sipush (v := 301) hx hb dX8_kindOf_27 (by decide) ?_
        exact W.iret (v := 301) hx hb hr (fun t ht hW => ⟨⟨301, [(a_x, (arI G 400 f_x))], rfl, ⟨301, fun _ h => absurd h (by decide), rfl, rfl⟩, by rw [ht]; exact hP.sub [0] rfl, hD.sub [0] (by decide) rfl⟩, hS.F ht⟩) hS.2.2 dX8_kindOf_30
      ·
        have i_7 : z5.toInt ≤ 1000 := by have z := g5_gtN (a := z5.toInt) (b := 1000) (by rfl) (by decide) c_7; omega
        refine lv_sipush (v := 300) hx hb dX8_kindOf_21 (by decide) ?_
        refine lv_goto (tgt := 30) hx hb dX8_kindOf_24 (by decide) ?_
        exact W.iret (v := 300) hx hb hr (fun t ht hW => ⟨⟨300, [(a_x, (arI G 400 f_x))], rfl, ⟨300, fun _ _ => by rw [← i_4]; omega, rfl, rfl⟩, by rw [ht]; exact hP.sub [0] rfl, hD.sub [0] (by decide) rfl⟩, hS.F ht⟩) hS.2.2 dX8_kindOf_30
  ·
    have i_2 : (f_x p_a.toNatClampNeg).toInt < 48 ∨ 57 < (f_x p_a.toNatClampNeg).toInt := i_2
    have hP := g5_same hP hk1
    generalize H1 = H at hP hS ⊢
    refine lv_if_eq (tgt := 31) hx hb dX8_kindOf_6 (by decide) (fun c_8 => ?_) (fun c_8 => ?_)
    ·
      refine lv_aload_n hx hb dX8_kindOf_31 rfl (lv_at hl 0 rfl) ?_
      refine lv_iload_n hx hb dX8_kindOf_32 rfl (lv_at hl 1 rfl) ?_
      refine va_iald hx hb hK hP 0 0 rfl rfl (i := p_a) (vp_in_iff.mpr ⟨by omega, by omega⟩) dX8_kindOf_33 ?_
      obtain ⟨hPc, hDc, hFc⟩ := g5_sub3 (wc := []) hP hD hS hA [] (by decide) rfl
      refine va_calli (va_runS (As := [.int (f_x p_a.toNatClampNeg)]) (rest := []) ⟨hx, hb, hml, hown, hts⟩ (k_letter l G H.size (f_x p_a.toNatClampNeg)) (va_cwS 1 hts gS_X8_35 rfl rfl rfl hs_X8_isLetter ⟨Nat.le_of_ble_eq_true rfl, Nat.le_of_ble_eq_true rfl⟩) (g5_preS hPc hK hDc hN hT hS hFc) rfl rfl hl.1 rfl (lv_room (Nat.le_of_ble_eq_true rfl)) dX8_kindOf_34 ⟨Nat.le_of_ble_eq_true rfl, Nat.le_of_ble_eq_true rfl⟩) hS (fun q _ h => hFc q h) hFc (fun r u t H1 locs ht hvm hw hB hz1 hk1 hS => ?_)
      obtain ⟨hP1, hD1⟩ := hB
      rw [ht] at hP1
      obtain ⟨z10, i_9, y11, rfl⟩ := hw
      have i_9 : 0 ≤ z10.toInt ∧ z10.toInt ≤ 1 := i_9
      have hP := g5_same hP hk1
      generalize H1 = H at hP hS ⊢
      refine g5_ti (v := z10) y11 ?_
      refine lv_if_eq (tgt := 64) hx hb dX8_kindOf_37 (by decide) (fun c_12 => ?_) (fun c_12 => ?_)
      ·
        have i_12 : z10.toInt = 0 := by have z := g5_eq (a := z10.toInt) (b := 0) (by rfl) (by decide) c_12; omega
        refine lv_aload_n hx hb dX8_kindOf_64 rfl (lv_at hl 0 rfl) ?_
        refine lv_iload_n hx hb dX8_kindOf_65 rfl (lv_at hl 1 rfl) ?_
        refine va_iald hx hb hK hP 0 0 rfl rfl (i := p_a) (vp_in_iff.mpr ⟨by omega, by omega⟩) dX8_kindOf_66 ?_
        exact W.iret (v := (f_x p_a.toNatClampNeg)) hx hb hr (fun t ht hW => ⟨⟨(f_x p_a.toNatClampNeg), [(a_x, (arI G 400 f_x))], rfl, ⟨(f_x p_a.toNatClampNeg), fun h => absurd h (by omega), rfl, rfl⟩, by rw [ht]; exact hP.sub [0] rfl, hD.sub [0] (by decide) rfl⟩, hS.F ht⟩) hS.2.2 dX8_kindOf_67
      ·
        have n_12 : gNe (z10.toInt) (0) := by have z := g5_eqN (a := z10.toInt) (b := 0) (by rfl) (by decide) c_12; unfold gNe; omega
        have i_12 : z10.toInt ≥ 1 := by have z := g5_eqN (a := z10.toInt) (b := 0) (by rfl) (by decide) c_12; omega
        refine lv_aload_n hx hb dX8_kindOf_40 rfl (lv_at hl 0 rfl) ?_
        refine lv_iload_n hx hb dX8_kindOf_41 rfl (lv_at hl 1 rfl) ?_
        refine lv_iload_n hx hb dX8_kindOf_42 rfl (lv_at hl 2 rfl) ?_
        obtain ⟨hPc, hDc, hFc⟩ := g5_sub3 (wc := [(a_x, (arI G 400 f_x))]) hP hD hS hA [0] (by decide) rfl
        refine va_calli (va_runS (As := [.ref a_x, .int p_a, .int p_t]) (rest := []) ⟨hx, hb, hml, hown, hts⟩ (k_word l G a_x H.size p_a p_t f_x ⟨by omega, by omega⟩ h_p_t) (va_cwS 3 hts gS_X8_38 rfl rfl rfl hs_X8_wordIn ⟨Nat.le_of_ble_eq_true rfl, Nat.le_of_ble_eq_true rfl⟩) (g5_preS hPc hK hDc hN hT hS hFc) rfl rfl hl.1 rfl (lv_room (Nat.le_of_ble_eq_true rfl)) dX8_kindOf_43 ⟨Nat.le_of_ble_eq_true rfl, Nat.le_of_ble_eq_true rfl⟩) hS (fun q _ h => hFc q h) hFc (fun r u t H1 locs ht hvm hw hB hz1 hk1 hS => ?_)
        obtain ⟨hP1, hD1⟩ := hB
        rw [ht] at hP1
        obtain ⟨z13, y14, rfl⟩ := hw
        obtain ⟨hP, hD⟩ := va_join (wr := []) hP hD [0] [] rfl rfl (by decide) (by decide) hk1 hFc hP1 hD1
        generalize H1 = H at hP hS ⊢
        refine g5_rs [(a_x, (arI G 400 f_x))] hP hD (fun hP hD => ?_)
        refine g5_ti (v := z13) y14 ?_
        refine lv_istore_n (lv' := [(3, .int z13), (0, .ref a_x), (1, .int p_a), (2, .int p_t)]) hx hb dX8_kindOf_46 rfl hl (by decide) rfl (fun ls hl => ?_)
        refine lv_iload_n hx hb dX8_kindOf_47 rfl (lv_at hl 0 rfl) ?_
        refine lv_iconst (v := (-1)) hx hb dX8_kindOf_48 (by decide) ?_
        refine lv_icmp_ne (tgt := 58) hx hb dX8_kindOf_49 (by decide) (fun c_15 => ?_) (fun c_15 => ?_)
        ·
          have n_15 : gNe (z13.toInt) ((-1)) := by have z := g5_ne (a := z13.toInt) (b := (-1)) (by rfl) (by decide) c_15; unfold gNe; omega
          refine lv_sipush (v := 256) hx hb dX8_kindOf_58 (by decide) ?_
          refine lv_iload_n hx hb dX8_kindOf_61 rfl (lv_at hl 0 rfl) ?_
          refine lv_iadd hx hb dX8_kindOf_62 ?_
          exact W.iret (v := (256 + z13)) hx hb hr (fun t ht hW => ⟨⟨(256 + z13), [(a_x, (arI G 400 f_x))], rfl, ⟨(256 + z13), fun h => absurd h (by omega), rfl, rfl⟩, by rw [ht]; exact hP.sub [0] rfl, hD.sub [0] (by decide) rfl⟩, hS.F ht⟩) hS.2.2 dX8_kindOf_63
        ·
          have i_15 : z13.toInt = (-1) := by have z := g5_neN (a := z13.toInt) (b := (-1)) (by rfl) (by decide) c_15; omega
          refine lv_sipush (v := 301) hx hb dX8_kindOf_52 (by decide) ?_
          refine lv_goto (tgt := 63) hx hb dX8_kindOf_55 (by decide) ?_
          exact W.iret (v := 301) hx hb hr (fun t ht hW => ⟨⟨301, [(a_x, (arI G 400 f_x))], rfl, ⟨301, fun h => absurd h (by omega), rfl, rfl⟩, by rw [ht]; exact hP.sub [0] rfl, hD.sub [0] (by decide) rfl⟩, hS.F ht⟩) hS.2.2 dX8_kindOf_63
    ·
      exact absurd c_8 (by decide)
theorem dgX8_kindAt_0 : ∀ r ∈ ([(0, (.iload_n 1, 1)), (1, (.ifCond .lt 21, 3)), (4, (.iload_n 1, 1)), (5, (.aload_n 0, 1)), (6, (.getfield 9, 3)), (9, (.arraylength, 1)), (10, (.if_icmp .ge 12, 3)), (13, (.aload_n 0, 1)), (14, (.getfield 9, 3)), (17, (.iload_n 1, 1)), (18, (.iaload, 1)), (19, (.goto 6, 3)), (22, (.sipush 302, 3)), (25, (.ireturn, 1))] : List (Nat × (Instr × Nat))), decode cX8_kindAt r.1 = .ok r.2 := by decide +kernel
theorem dX8_kindAt_0 : decode cX8_kindAt 0 = .ok (.iload_n 1, 1) := dgX8_kindAt_0 (0, (.iload_n 1, 1)) (List.mem_of_getElem? (i := 0) rfl)
theorem dX8_kindAt_1 : decode cX8_kindAt 1 = .ok (.ifCond .lt 21, 3) := dgX8_kindAt_0 (1, (.ifCond .lt 21, 3)) (List.mem_of_getElem? (i := 1) rfl)
theorem dX8_kindAt_4 : decode cX8_kindAt 4 = .ok (.iload_n 1, 1) := dgX8_kindAt_0 (4, (.iload_n 1, 1)) (List.mem_of_getElem? (i := 2) rfl)
theorem dX8_kindAt_5 : decode cX8_kindAt 5 = .ok (.aload_n 0, 1) := dgX8_kindAt_0 (5, (.aload_n 0, 1)) (List.mem_of_getElem? (i := 3) rfl)
theorem dX8_kindAt_6 : decode cX8_kindAt 6 = .ok (.getfield 9, 3) := dgX8_kindAt_0 (6, (.getfield 9, 3)) (List.mem_of_getElem? (i := 4) rfl)
theorem dX8_kindAt_9 : decode cX8_kindAt 9 = .ok (.arraylength, 1) := dgX8_kindAt_0 (9, (.arraylength, 1)) (List.mem_of_getElem? (i := 5) rfl)
theorem dX8_kindAt_10 : decode cX8_kindAt 10 = .ok (.if_icmp .ge 12, 3) := dgX8_kindAt_0 (10, (.if_icmp .ge 12, 3)) (List.mem_of_getElem? (i := 6) rfl)
theorem dX8_kindAt_13 : decode cX8_kindAt 13 = .ok (.aload_n 0, 1) := dgX8_kindAt_0 (13, (.aload_n 0, 1)) (List.mem_of_getElem? (i := 7) rfl)
theorem dX8_kindAt_14 : decode cX8_kindAt 14 = .ok (.getfield 9, 3) := dgX8_kindAt_0 (14, (.getfield 9, 3)) (List.mem_of_getElem? (i := 8) rfl)
theorem dX8_kindAt_17 : decode cX8_kindAt 17 = .ok (.iload_n 1, 1) := dgX8_kindAt_0 (17, (.iload_n 1, 1)) (List.mem_of_getElem? (i := 9) rfl)
theorem dX8_kindAt_18 : decode cX8_kindAt 18 = .ok (.iaload, 1) := dgX8_kindAt_0 (18, (.iaload, 1)) (List.mem_of_getElem? (i := 10) rfl)
theorem dX8_kindAt_19 : decode cX8_kindAt 19 = .ok (.goto 6, 3) := dgX8_kindAt_0 (19, (.goto 6, 3)) (List.mem_of_getElem? (i := 11) rfl)
theorem dX8_kindAt_22 : decode cX8_kindAt 22 = .ok (.sipush 302, 3) := dgX8_kindAt_0 (22, (.sipush 302, 3)) (List.mem_of_getElem? (i := 12) rfl)
theorem dX8_kindAt_25 : decode cX8_kindAt 25 = .ok (.ireturn, 1) := dgX8_kindAt_0 (25, (.ireturn, 1)) (List.mem_of_getElem? (i := 13) rfl)
theorem inG_X8 : ∀ w ∈ wsX80, w ∈ tblG := tgs [411, 413, 415] (by decide +kernel) (by decide +kernel)
theorem fl_X8_9 : Cond.fieldLink RX8 9 "LateGlass$Tokens" "kinds" "[I" ∈ tblG := tg 405 (by decide +kernel) (by decide +kernel)
set_option maxHeartbeats 4000000 in
set_option maxRecDepth 100000 in
theorem k_kindAt (l : Launch) (G : g5_G) (a_tk a_kd a_nm a_pl : Nat) (sz : Nat) (p_t : Int32) (f_kd : Nat → Int32) (h_p_t : 0 ≤ p_t.toInt ∧ p_t.toInt ≤ 401) : Met l yX8_kindAt (wsG yX8_kindAt cX8_kindAt 2 (some .int)) ({ frames := 0, cells := 0, slots := 0, locals := 0 }) (va_Pc [.ref a_tk, .int p_t] (g5_P G [(a_tk, (oc8 a_kd a_nm a_pl)), (a_kd, (arI G 401 f_kd))] sz)) (va_Qi (fun (r : Int32) (u : va_W) => (∃ (o_r : Int32), (p_t.toInt ≤ 400) ∧ (r = o_r) ∧ (u = [(a_tk, (oc8 a_kd a_nm a_pl)), (a_kd, (arI G 401 f_kd))])) ∨ ((r = 302) ∧ (u = [(a_tk, (oc8 a_kd a_nm a_pl)), (a_kd, (arI G 401 f_kd))]))) (g5_B G (va_A [(a_tk, (oc8 a_kd a_nm a_pl)), (a_kd, (arI G 401 f_kd))] sz)) (va_A [(a_tk, (oc8 a_kd a_nm a_pl)), (a_kd, (arI G 401 f_kd))] sz)) 0 0 (va_A [(a_tk, (oc8 a_kd a_nm a_pl)), (a_kd, (arI G 401 f_kd))] sz) := by
  refine Met.ofW (cc := cX8_kindAt) (maxL := 2) (ret := (some .int)) (by decide) rfl ?_
  intro p e s m args below meth c s₁ B hml hv
  obtain ⟨rfl, hsz, hP, hK, hD0, hN, hT⟩ := hv
  have hx := B.exec
  have hb := B.bytes
  have hr := B.returns
  have hts : ∀ w ∈ tblG, w.before _ s = true := fun w h => atoms_spec (ws := (wsG yX8_kindAt cX8_kindAt 2 (some .int))) B.pre w (List.mem_cons_of_mem _ h)
  have hown : s.vm.findClass RX8 = some m.cls := findClass_of_methodNamed B.named
  have hlocks := B.notSynchronized
  subst hsz
  have hD := hD0.self (sz := s.heap.size)
  generalize hAe : va_A [(a_tk, (oc8 a_kd a_nm a_pl)), (a_kd, (arI G 401 f_kd))] s.heap.size = A at hD hT ⊢
  have hA : ∀ q : Nat, s.heap.size ≤ q → A q := fun q h => by rw [← hAe]; exact Or.inr h
  have hS : va_S A s.heap s.heap [] := va_S.rf
  have hP : va_P G.1 vwCl [(a_tk, (oc8 a_kd a_nm a_pl)), (a_kd, (arI G 401 f_kd))] s.heap := hP
  have hl := lv_entry ([.ref a_tk, .int p_t]) (n := 2) (Nat.le_of_ble_eq_true rfl)
  rw [lg_entry_eq]
  generalize (lg_sl ([.ref a_tk, .int p_t]) ++ List.replicate (2 - (lg_sl ([.ref a_tk, .int p_t])).length) Slot.unset).toArray = ls at hl ⊢
  have hl : lv_has ls 2 [(0, .ref a_tk), (1, .int p_t)] := hl
  refine lv_iload_n hx hb dX8_kindAt_0 rfl (lv_at hl 1 rfl) ?_
  refine lv_if_lt (tgt := 22) hx hb dX8_kindAt_1 (by decide) (fun c_1 => ?_) (fun c_1 => ?_)
  ·
    have i_1 : p_t.toInt < 0 := by have z := g5_lt (a := p_t.toInt) (b := 0) (by rfl) (by decide) c_1; omega
    omega
  ·
    have i_1 : p_t.toInt ≥ 0 := by have z := g5_ltN (a := p_t.toInt) (b := 0) (by rfl) (by decide) c_1; omega
    refine lv_iload_n hx hb dX8_kindAt_4 rfl (lv_at hl 1 rfl) ?_
    refine lv_aload_n hx hb dX8_kindAt_5 rfl (lv_at hl 0 rfl) ?_
    refine va_get (D := G.1) (ci := 8) (v := .ref a_kd) (C := RX8) (T := TX8) (N := 3) hx hb hts inG_X8 hown hK hP 0 rfl rfl 0 (by decide) (hts _ fl_X8_9) (fun _ h9 => h9) rfl dX8_kindAt_6 ?_
    refine va_alen hx hb hK hP 1 0 rfl rfl (v := 401) (by show Int32.ofNat 401 = 401; decide) dX8_kindAt_9 ?_
    refine lv_icmp_ge (tgt := 22) hx hb dX8_kindAt_10 (by decide) (fun c_2 => ?_) (fun c_2 => ?_)
    ·
      have i_2 : p_t.toInt ≥ 401 := by have z := g5_ge (a := p_t.toInt) (b := 401) (by rfl) (by decide) c_2; omega
      refine lv_sipush (v := 302) hx hb dX8_kindAt_22 (by decide) ?_
      exact W.iret (v := 302) hx hb hr (fun t ht hW => ⟨⟨302, [(a_tk, (oc8 a_kd a_nm a_pl)), (a_kd, (arI G 401 f_kd))], rfl, Or.inr (⟨rfl, rfl⟩), by rw [ht]; exact hP.sub [0, 1] rfl, hD.sub [0, 1] (by decide) rfl⟩, hS.F ht⟩) hS.2.2 dX8_kindAt_25
    ·
      have i_2 : p_t.toInt < 401 := by have z := g5_geN (a := p_t.toInt) (b := 401) (by rfl) (by decide) c_2; omega
      refine lv_aload_n hx hb dX8_kindAt_13 rfl (lv_at hl 0 rfl) ?_
      refine va_get (D := G.1) (ci := 8) (v := .ref a_kd) (C := RX8) (T := TX8) (N := 3) hx hb hts inG_X8 hown hK hP 0 rfl rfl 0 (by decide) (hts _ fl_X8_9) (fun _ h9 => h9) rfl dX8_kindAt_14 ?_
      refine lv_iload_n hx hb dX8_kindAt_17 rfl (lv_at hl 1 rfl) ?_
      refine va_iald hx hb hK hP 1 0 rfl rfl (i := p_t) (vp_in_iff.mpr ⟨by omega, by omega⟩) dX8_kindAt_18 ?_
      refine lv_goto (tgt := 25) hx hb dX8_kindAt_19 (by decide) ?_
      exact W.iret (v := (f_kd p_t.toNatClampNeg)) hx hb hr (fun t ht hW => ⟨⟨(f_kd p_t.toNatClampNeg), [(a_tk, (oc8 a_kd a_nm a_pl)), (a_kd, (arI G 401 f_kd))], rfl, Or.inl (⟨(f_kd p_t.toNatClampNeg), by omega, rfl, rfl⟩), by rw [ht]; exact hP.sub [0, 1] rfl, hD.sub [0, 1] (by decide) rfl⟩, hS.F ht⟩) hS.2.2 dX8_kindAt_25
theorem dgX8_cut_0 : ∀ r ∈ ([(0, (.iconst 0, 1)), (1, (.istore_n 3, 1)), (2, (.iconst 0, 1)), (3, (.istore 4, 2)), (5, (.iconst 0, 1)), (6, (.istore 5, 2)), (8, (.iload 5, 2)), (10, (.iload_n 2, 1)), (11, (.if_icmp .ge 90, 3)), (14, (.iload 4, 2)), (16, (.iload_n 2, 1)), (17, (.if_icmp .ge 84, 3)), (20, (.aload_n 1, 1)), (21, (.iload 4, 2)), (23, (.iload_n 2, 1)), (24, (.invokestatic 21, 3)), (27, (.istore 6, 2)), (29, (.aload_n 1, 1)), (30, (.iload 4, 2)), (32, (.iaload, 1)), (33, (.bipush 32, 2)), (35, (.if_icmp .eq 56, 3)), (38, (.aload_n 0, 1)), (39, (.getfield 18, 3)), (42, (.iload_n 3, 1)), (43, (.iload 4, 2)), (45, (.iastore, 1)), (46, (.aload_n 0, 1)), (47, (.getfield 15, 3)), (50, (.iload_n 3, 1)), (51, (.aload_n 1, 1)), (52, (.iload 4, 2)), (54, (.iaload, 1)), (55, (.invokestatic 25, 3)), (58, (.ifCond .eq 14, 3)), (61, (.aload_n 1, 1)), (62, (.iload 4, 2)), (64, (.iload 6, 2)), (66, (.invokestatic 29, 3)), (69, (.goto 4, 3))] : List (Nat × (Instr × Nat))), decode cX8_cut r.1 = .ok r.2 := by decide +kernel
theorem dX8_cut_0 : decode cX8_cut 0 = .ok (.iconst 0, 1) := dgX8_cut_0 (0, (.iconst 0, 1)) (List.mem_of_getElem? (i := 0) rfl)
theorem dX8_cut_1 : decode cX8_cut 1 = .ok (.istore_n 3, 1) := dgX8_cut_0 (1, (.istore_n 3, 1)) (List.mem_of_getElem? (i := 1) rfl)
theorem dX8_cut_2 : decode cX8_cut 2 = .ok (.iconst 0, 1) := dgX8_cut_0 (2, (.iconst 0, 1)) (List.mem_of_getElem? (i := 2) rfl)
theorem dX8_cut_3 : decode cX8_cut 3 = .ok (.istore 4, 2) := dgX8_cut_0 (3, (.istore 4, 2)) (List.mem_of_getElem? (i := 3) rfl)
theorem dX8_cut_5 : decode cX8_cut 5 = .ok (.iconst 0, 1) := dgX8_cut_0 (5, (.iconst 0, 1)) (List.mem_of_getElem? (i := 4) rfl)
theorem dX8_cut_6 : decode cX8_cut 6 = .ok (.istore 5, 2) := dgX8_cut_0 (6, (.istore 5, 2)) (List.mem_of_getElem? (i := 5) rfl)
theorem dX8_cut_8 : decode cX8_cut 8 = .ok (.iload 5, 2) := dgX8_cut_0 (8, (.iload 5, 2)) (List.mem_of_getElem? (i := 6) rfl)
theorem dX8_cut_10 : decode cX8_cut 10 = .ok (.iload_n 2, 1) := dgX8_cut_0 (10, (.iload_n 2, 1)) (List.mem_of_getElem? (i := 7) rfl)
theorem dX8_cut_11 : decode cX8_cut 11 = .ok (.if_icmp .ge 90, 3) := dgX8_cut_0 (11, (.if_icmp .ge 90, 3)) (List.mem_of_getElem? (i := 8) rfl)
theorem dX8_cut_14 : decode cX8_cut 14 = .ok (.iload 4, 2) := dgX8_cut_0 (14, (.iload 4, 2)) (List.mem_of_getElem? (i := 9) rfl)
theorem dX8_cut_16 : decode cX8_cut 16 = .ok (.iload_n 2, 1) := dgX8_cut_0 (16, (.iload_n 2, 1)) (List.mem_of_getElem? (i := 10) rfl)
theorem dX8_cut_17 : decode cX8_cut 17 = .ok (.if_icmp .ge 84, 3) := dgX8_cut_0 (17, (.if_icmp .ge 84, 3)) (List.mem_of_getElem? (i := 11) rfl)
theorem dX8_cut_20 : decode cX8_cut 20 = .ok (.aload_n 1, 1) := dgX8_cut_0 (20, (.aload_n 1, 1)) (List.mem_of_getElem? (i := 12) rfl)
theorem dX8_cut_21 : decode cX8_cut 21 = .ok (.iload 4, 2) := dgX8_cut_0 (21, (.iload 4, 2)) (List.mem_of_getElem? (i := 13) rfl)
theorem dX8_cut_23 : decode cX8_cut 23 = .ok (.iload_n 2, 1) := dgX8_cut_0 (23, (.iload_n 2, 1)) (List.mem_of_getElem? (i := 14) rfl)
theorem dX8_cut_24 : decode cX8_cut 24 = .ok (.invokestatic 21, 3) := dgX8_cut_0 (24, (.invokestatic 21, 3)) (List.mem_of_getElem? (i := 15) rfl)
theorem dX8_cut_27 : decode cX8_cut 27 = .ok (.istore 6, 2) := dgX8_cut_0 (27, (.istore 6, 2)) (List.mem_of_getElem? (i := 16) rfl)
theorem dX8_cut_29 : decode cX8_cut 29 = .ok (.aload_n 1, 1) := dgX8_cut_0 (29, (.aload_n 1, 1)) (List.mem_of_getElem? (i := 17) rfl)
theorem dX8_cut_30 : decode cX8_cut 30 = .ok (.iload 4, 2) := dgX8_cut_0 (30, (.iload 4, 2)) (List.mem_of_getElem? (i := 18) rfl)
theorem dX8_cut_32 : decode cX8_cut 32 = .ok (.iaload, 1) := dgX8_cut_0 (32, (.iaload, 1)) (List.mem_of_getElem? (i := 19) rfl)
theorem dX8_cut_33 : decode cX8_cut 33 = .ok (.bipush 32, 2) := dgX8_cut_0 (33, (.bipush 32, 2)) (List.mem_of_getElem? (i := 20) rfl)
theorem dX8_cut_35 : decode cX8_cut 35 = .ok (.if_icmp .eq 56, 3) := dgX8_cut_0 (35, (.if_icmp .eq 56, 3)) (List.mem_of_getElem? (i := 21) rfl)
theorem dX8_cut_38 : decode cX8_cut 38 = .ok (.aload_n 0, 1) := dgX8_cut_0 (38, (.aload_n 0, 1)) (List.mem_of_getElem? (i := 22) rfl)
theorem dX8_cut_39 : decode cX8_cut 39 = .ok (.getfield 18, 3) := dgX8_cut_0 (39, (.getfield 18, 3)) (List.mem_of_getElem? (i := 23) rfl)
theorem dX8_cut_42 : decode cX8_cut 42 = .ok (.iload_n 3, 1) := dgX8_cut_0 (42, (.iload_n 3, 1)) (List.mem_of_getElem? (i := 24) rfl)
theorem dX8_cut_43 : decode cX8_cut 43 = .ok (.iload 4, 2) := dgX8_cut_0 (43, (.iload 4, 2)) (List.mem_of_getElem? (i := 25) rfl)
theorem dX8_cut_45 : decode cX8_cut 45 = .ok (.iastore, 1) := dgX8_cut_0 (45, (.iastore, 1)) (List.mem_of_getElem? (i := 26) rfl)
theorem dX8_cut_46 : decode cX8_cut 46 = .ok (.aload_n 0, 1) := dgX8_cut_0 (46, (.aload_n 0, 1)) (List.mem_of_getElem? (i := 27) rfl)
theorem dX8_cut_47 : decode cX8_cut 47 = .ok (.getfield 15, 3) := dgX8_cut_0 (47, (.getfield 15, 3)) (List.mem_of_getElem? (i := 28) rfl)
theorem dX8_cut_50 : decode cX8_cut 50 = .ok (.iload_n 3, 1) := dgX8_cut_0 (50, (.iload_n 3, 1)) (List.mem_of_getElem? (i := 29) rfl)
theorem dX8_cut_51 : decode cX8_cut 51 = .ok (.aload_n 1, 1) := dgX8_cut_0 (51, (.aload_n 1, 1)) (List.mem_of_getElem? (i := 30) rfl)
theorem dX8_cut_52 : decode cX8_cut 52 = .ok (.iload 4, 2) := dgX8_cut_0 (52, (.iload 4, 2)) (List.mem_of_getElem? (i := 31) rfl)
theorem dX8_cut_54 : decode cX8_cut 54 = .ok (.iaload, 1) := dgX8_cut_0 (54, (.iaload, 1)) (List.mem_of_getElem? (i := 32) rfl)
theorem dX8_cut_55 : decode cX8_cut 55 = .ok (.invokestatic 25, 3) := dgX8_cut_0 (55, (.invokestatic 25, 3)) (List.mem_of_getElem? (i := 33) rfl)
theorem dX8_cut_58 : decode cX8_cut 58 = .ok (.ifCond .eq 14, 3) := dgX8_cut_0 (58, (.ifCond .eq 14, 3)) (List.mem_of_getElem? (i := 34) rfl)
theorem dX8_cut_61 : decode cX8_cut 61 = .ok (.aload_n 1, 1) := dgX8_cut_0 (61, (.aload_n 1, 1)) (List.mem_of_getElem? (i := 35) rfl)
theorem dX8_cut_62 : decode cX8_cut 62 = .ok (.iload 4, 2) := dgX8_cut_0 (62, (.iload 4, 2)) (List.mem_of_getElem? (i := 36) rfl)
theorem dX8_cut_64 : decode cX8_cut 64 = .ok (.iload 6, 2) := dgX8_cut_0 (64, (.iload 6, 2)) (List.mem_of_getElem? (i := 37) rfl)
theorem dX8_cut_66 : decode cX8_cut 66 = .ok (.invokestatic 29, 3) := dgX8_cut_0 (66, (.invokestatic 29, 3)) (List.mem_of_getElem? (i := 38) rfl)
theorem dX8_cut_69 : decode cX8_cut 69 = .ok (.goto 4, 3) := dgX8_cut_0 (69, (.goto 4, 3)) (List.mem_of_getElem? (i := 39) rfl)
theorem dgX8_cut_1 : ∀ r ∈ ([(72, (.iconst 0, 1)), (73, (.iastore, 1)), (74, (.aload_n 0, 1)), (75, (.getfield 9, 3)), (78, (.iload_n 3, 1)), (79, (.aload_n 1, 1)), (80, (.iload 4, 2)), (82, (.iload 6, 2)), (84, (.invokestatic 32, 3)), (87, (.iastore, 1)), (88, (.iinc 3 1, 3)), (91, (.iload 6, 2)), (93, (.istore 4, 2)), (95, (.iinc 5 1, 3)), (98, (.goto (-90), 3)), (101, (.aload_n 0, 1)), (102, (.getfield 18, 3)), (105, (.iload_n 3, 1)), (106, (.iload_n 2, 1)), (107, (.iastore, 1)), (108, (.aload_n 0, 1)), (109, (.getfield 9, 3)), (112, (.iload_n 3, 1)), (113, (.sipush 302, 3)), (116, (.iastore, 1)), (117, (.return_, 1))] : List (Nat × (Instr × Nat))), decode cX8_cut r.1 = .ok r.2 := by decide +kernel
theorem dX8_cut_72 : decode cX8_cut 72 = .ok (.iconst 0, 1) := dgX8_cut_1 (72, (.iconst 0, 1)) (List.mem_of_getElem? (i := 0) rfl)
theorem dX8_cut_73 : decode cX8_cut 73 = .ok (.iastore, 1) := dgX8_cut_1 (73, (.iastore, 1)) (List.mem_of_getElem? (i := 1) rfl)
theorem dX8_cut_74 : decode cX8_cut 74 = .ok (.aload_n 0, 1) := dgX8_cut_1 (74, (.aload_n 0, 1)) (List.mem_of_getElem? (i := 2) rfl)
theorem dX8_cut_75 : decode cX8_cut 75 = .ok (.getfield 9, 3) := dgX8_cut_1 (75, (.getfield 9, 3)) (List.mem_of_getElem? (i := 3) rfl)
theorem dX8_cut_78 : decode cX8_cut 78 = .ok (.iload_n 3, 1) := dgX8_cut_1 (78, (.iload_n 3, 1)) (List.mem_of_getElem? (i := 4) rfl)
theorem dX8_cut_79 : decode cX8_cut 79 = .ok (.aload_n 1, 1) := dgX8_cut_1 (79, (.aload_n 1, 1)) (List.mem_of_getElem? (i := 5) rfl)
theorem dX8_cut_80 : decode cX8_cut 80 = .ok (.iload 4, 2) := dgX8_cut_1 (80, (.iload 4, 2)) (List.mem_of_getElem? (i := 6) rfl)
theorem dX8_cut_82 : decode cX8_cut 82 = .ok (.iload 6, 2) := dgX8_cut_1 (82, (.iload 6, 2)) (List.mem_of_getElem? (i := 7) rfl)
theorem dX8_cut_84 : decode cX8_cut 84 = .ok (.invokestatic 32, 3) := dgX8_cut_1 (84, (.invokestatic 32, 3)) (List.mem_of_getElem? (i := 8) rfl)
theorem dX8_cut_87 : decode cX8_cut 87 = .ok (.iastore, 1) := dgX8_cut_1 (87, (.iastore, 1)) (List.mem_of_getElem? (i := 9) rfl)
theorem dX8_cut_88 : decode cX8_cut 88 = .ok (.iinc 3 1, 3) := dgX8_cut_1 (88, (.iinc 3 1, 3)) (List.mem_of_getElem? (i := 10) rfl)
theorem dX8_cut_91 : decode cX8_cut 91 = .ok (.iload 6, 2) := dgX8_cut_1 (91, (.iload 6, 2)) (List.mem_of_getElem? (i := 11) rfl)
theorem dX8_cut_93 : decode cX8_cut 93 = .ok (.istore 4, 2) := dgX8_cut_1 (93, (.istore 4, 2)) (List.mem_of_getElem? (i := 12) rfl)
theorem dX8_cut_95 : decode cX8_cut 95 = .ok (.iinc 5 1, 3) := dgX8_cut_1 (95, (.iinc 5 1, 3)) (List.mem_of_getElem? (i := 13) rfl)
theorem dX8_cut_98 : decode cX8_cut 98 = .ok (.goto (-90), 3) := dgX8_cut_1 (98, (.goto (-90), 3)) (List.mem_of_getElem? (i := 14) rfl)
theorem dX8_cut_101 : decode cX8_cut 101 = .ok (.aload_n 0, 1) := dgX8_cut_1 (101, (.aload_n 0, 1)) (List.mem_of_getElem? (i := 15) rfl)
theorem dX8_cut_102 : decode cX8_cut 102 = .ok (.getfield 18, 3) := dgX8_cut_1 (102, (.getfield 18, 3)) (List.mem_of_getElem? (i := 16) rfl)
theorem dX8_cut_105 : decode cX8_cut 105 = .ok (.iload_n 3, 1) := dgX8_cut_1 (105, (.iload_n 3, 1)) (List.mem_of_getElem? (i := 17) rfl)
theorem dX8_cut_106 : decode cX8_cut 106 = .ok (.iload_n 2, 1) := dgX8_cut_1 (106, (.iload_n 2, 1)) (List.mem_of_getElem? (i := 18) rfl)
theorem dX8_cut_107 : decode cX8_cut 107 = .ok (.iastore, 1) := dgX8_cut_1 (107, (.iastore, 1)) (List.mem_of_getElem? (i := 19) rfl)
theorem dX8_cut_108 : decode cX8_cut 108 = .ok (.aload_n 0, 1) := dgX8_cut_1 (108, (.aload_n 0, 1)) (List.mem_of_getElem? (i := 20) rfl)
theorem dX8_cut_109 : decode cX8_cut 109 = .ok (.getfield 9, 3) := dgX8_cut_1 (109, (.getfield 9, 3)) (List.mem_of_getElem? (i := 21) rfl)
theorem dX8_cut_112 : decode cX8_cut 112 = .ok (.iload_n 3, 1) := dgX8_cut_1 (112, (.iload_n 3, 1)) (List.mem_of_getElem? (i := 22) rfl)
theorem dX8_cut_113 : decode cX8_cut 113 = .ok (.sipush 302, 3) := dgX8_cut_1 (113, (.sipush 302, 3)) (List.mem_of_getElem? (i := 23) rfl)
theorem dX8_cut_116 : decode cX8_cut 116 = .ok (.iastore, 1) := dgX8_cut_1 (116, (.iastore, 1)) (List.mem_of_getElem? (i := 24) rfl)
theorem dX8_cut_117 : decode cX8_cut 117 = .ok (.return_, 1) := dgX8_cut_1 (117, (.return_, 1)) (List.mem_of_getElem? (i := 25) rfl)
theorem fl_X8_18 : Cond.fieldLink RX8 18 "LateGlass$Tokens" "places" "[I" ∈ tblG := tg 409 (by decide +kernel) (by decide +kernel)
theorem ml_X8_21 : Cond.methodLink RX8 21 yX8_endOf ∈ tblG := tg 649 (by decide +kernel) (by decide +kernel)
theorem st_X8_endOf : Cond.static yX8_endOf ∈ tblG := tg 650 (by decide +kernel) (by decide +kernel)
theorem cd_X8_endOf : Cond.code yX8_endOf cX8_endOf 4 (some .int) ∈ tblG := tg 651 (by decide +kernel) (by decide +kernel)
theorem gW_X8_endOf : GoodIn tblG (wsG yX8_endOf cX8_endOf 4 (some .int)) := tgi cd_X8_endOf
theorem gS_X8_21 : GoodIn tblG (va_wsS RX8 21 yX8_endOf (wsG yX8_endOf cX8_endOf 4 (some .int))) := tgS ml_X8_21 st_X8_endOf ini_X8 gW_X8_endOf
theorem hs_X8_endOf : yX8_endOf.cls ≠ "java/lang/invoke/MethodHandle" ∧ yX8_endOf.cls ≠ "java/lang/invoke/VarHandle" ∧ (parseMethodDescriptor yX8_endOf.desc).map (fun d => d.parameters.length) = some 3 := by decide +kernel
theorem fl_X8_15 : Cond.fieldLink RX8 15 "LateGlass$Tokens" "numbers" "[I" ∈ tblG := tg 407 (by decide +kernel) (by decide +kernel)
theorem ml_X8_32 : Cond.methodLink RX8 32 yX8_kindOf ∈ tblG := tg 661 (by decide +kernel) (by decide +kernel)
theorem st_X8_kindOf : Cond.static yX8_kindOf ∈ tblG := tg 662 (by decide +kernel) (by decide +kernel)
theorem cd_X8_kindOf : Cond.code yX8_kindOf cX8_kindOf 4 (some .int) ∈ tblG := tg 663 (by decide +kernel) (by decide +kernel)
theorem gW_X8_kindOf : GoodIn tblG (wsG yX8_kindOf cX8_kindOf 4 (some .int)) := tgi cd_X8_kindOf
theorem gS_X8_32 : GoodIn tblG (va_wsS RX8 32 yX8_kindOf (wsG yX8_kindOf cX8_kindOf 4 (some .int))) := tgS ml_X8_32 st_X8_kindOf ini_X8 gW_X8_kindOf
theorem hs_X8_kindOf : yX8_kindOf.cls ≠ "java/lang/invoke/MethodHandle" ∧ yX8_kindOf.cls ≠ "java/lang/invoke/VarHandle" ∧ (parseMethodDescriptor yX8_kindOf.desc).map (fun d => d.parameters.length) = some 3 := by decide +kernel
set_option maxHeartbeats 4000000 in
set_option maxRecDepth 100000 in
theorem k_cut (l : Launch) (G : g5_G) (a_tk a_kd a_nm a_pl a_x : Nat) (sz : Nat) (p_n : Int32) (f_kd : Nat → Int32) (f_nm : Nat → Int32) (f_pl : Nat → Int32) (f_x : Nat → Int32) (h_p_n : 0 ≤ p_n.toInt ∧ p_n.toInt ≤ 400) (e_tk : TOKI f_kd f_nm) : Met l yX8_cut (wsG yX8_cut cX8_cut 7 none) ({ frames := 6, cells := 0, slots := 0, locals := 135 }) (va_Pc [.ref a_tk, .ref a_x, .int p_n] (g5_P G [(a_tk, (oc8 a_kd a_nm a_pl)), (a_kd, (arI G 401 f_kd)), (a_nm, (arI G 401 f_nm)), (a_pl, (arI G 401 f_pl)), (a_x, (arI G 400 f_x))] sz)) (va_Qv (fun (u : va_W) => (∃ (o_kd : Nat → Int32) (o_nm : Nat → Int32) (o_pl : Nat → Int32), (TOKI o_kd o_nm) ∧ (u = [(a_tk, (oc8 a_kd a_nm a_pl)), (a_kd, (arI G 401 o_kd)), (a_nm, (arI G 401 o_nm)), (a_pl, (arI G 401 o_pl)), (a_x, (arI G 400 f_x))]))) (g5_B G (va_A [(a_tk, (oc8 a_kd a_nm a_pl)), (a_kd, (arI G 401 f_kd)), (a_nm, (arI G 401 f_nm)), (a_pl, (arI G 401 f_pl)), (a_x, (arI G 400 f_x))] sz)) (va_A [(a_tk, (oc8 a_kd a_nm a_pl)), (a_kd, (arI G 401 f_kd)), (a_nm, (arI G 401 f_nm)), (a_pl, (arI G 401 f_pl)), (a_x, (arI G 400 f_x))] sz)) 0 0 (va_A [(a_tk, (oc8 a_kd a_nm a_pl)), (a_kd, (arI G 401 f_kd)), (a_nm, (arI G 401 f_nm)), (a_pl, (arI G 401 f_pl)), (a_x, (arI G 400 f_x))] sz) := by
  refine Met.ofW (cc := cX8_cut) (maxL := 7) (ret := none) (by decide) rfl ?_
  intro p e s m args below meth c s₁ B hml hv
  obtain ⟨rfl, hsz, hP, hK, hD0, hN, hT⟩ := hv
  have hx := B.exec
  have hb := B.bytes
  have hr := B.returns
  have hts : ∀ w ∈ tblG, w.before _ s = true := fun w h => atoms_spec (ws := (wsG yX8_cut cX8_cut 7 none)) B.pre w (List.mem_cons_of_mem _ h)
  have hown : s.vm.findClass RX8 = some m.cls := findClass_of_methodNamed B.named
  have hlocks := B.notSynchronized
  subst hsz
  have hD := hD0.self (sz := s.heap.size)
  generalize hAe : va_A [(a_tk, (oc8 a_kd a_nm a_pl)), (a_kd, (arI G 401 f_kd)), (a_nm, (arI G 401 f_nm)), (a_pl, (arI G 401 f_pl)), (a_x, (arI G 400 f_x))] s.heap.size = A at hD hT ⊢
  have hA : ∀ q : Nat, s.heap.size ≤ q → A q := fun q h => by rw [← hAe]; exact Or.inr h
  have hS : va_S A s.heap s.heap [] := va_S.rf
  have hP : va_P G.1 vwCl [(a_tk, (oc8 a_kd a_nm a_pl)), (a_kd, (arI G 401 f_kd)), (a_nm, (arI G 401 f_nm)), (a_pl, (arI G 401 f_pl)), (a_x, (arI G 400 f_x))] s.heap := hP
  have hl := lv_entry ([.ref a_tk, .ref a_x, .int p_n]) (n := 7) (Nat.le_of_ble_eq_true rfl)
  rw [lg_entry_eq]
  generalize (lg_sl ([.ref a_tk, .ref a_x, .int p_n]) ++ List.replicate (7 - (lg_sl ([.ref a_tk, .ref a_x, .int p_n])).length) Slot.unset).toArray = ls at hl ⊢
  have hl : lv_has ls 7 [(0, .ref a_tk), (1, .ref a_x), (2, .int p_n)] := hl
  refine lv_iconst (v := 0) hx hb dX8_cut_0 (by decide) ?_
  refine lv_istore_n (lv' := [(3, .int 0), (0, .ref a_tk), (1, .ref a_x), (2, .int p_n)]) hx hb dX8_cut_1 rfl hl (by decide) rfl (fun ls hl => ?_)
  refine lv_iconst (v := 0) hx hb dX8_cut_2 (by decide) ?_
  refine lv_istore (lv' := [(4, .int 0), (3, .int 0), (0, .ref a_tk), (1, .ref a_x), (2, .int p_n)]) hx hb dX8_cut_3 hl (by decide) rfl (fun ls hl => ?_)
  refine lv_iconst (v := 0) hx hb dX8_cut_5 (by decide) ?_
  refine lv_istore (lv' := [(5, .int 0), (4, .int 0), (3, .int 0), (0, .ref a_tk), (1, .ref a_x), (2, .int p_n)]) hx hb dX8_cut_6 hl (by decide) rfl (fun ls hl => ?_)
  refine g5_loop (α := (Int32) × (Int32) × (Int32) × (Nat → Int32) × (Nat → Int32) × (Nat → Int32)) (fun (q : (Int32) × (Int32) × (Int32) × (Nat → Int32) × (Nat → Int32) × (Nat → Int32)) (ls : Array Slot) (H : Heap) (locs : List Loc) => match q with | (k_t, k_a, k_i, k_kd, k_nm, k_pl) => lv_has ls 7 [(3, .int k_t), (4, .int k_a), (5, .int k_i), (0, .ref a_tk), (1, .ref a_x), (2, .int p_n)] ∧ va_P G.1 vwCl [(a_tk, (oc8 a_kd a_nm a_pl)), (a_kd, (arI G 401 k_kd)), (a_nm, (arI G 401 k_nm)), (a_pl, (arI G 401 k_pl)), (a_x, (arI G 400 f_x))] H ∧ va_D A [(a_tk, (oc8 a_kd a_nm a_pl)), (a_kd, (arI G 401 k_kd)), (a_nm, (arI G 401 k_nm)), (a_pl, (arI G 401 k_pl)), (a_x, (arI G 400 f_x))] ∧ va_S A s.heap H locs ∧ (0 ≤ k_t.toInt ∧ k_t.toInt ≤ 400) ∧ (0 ≤ k_a.toInt ∧ k_a.toInt ≤ 400) ∧ (0 ≤ k_i.toInt ∧ k_i.toInt ≤ 400) ∧ (k_t.toInt ≤ k_i.toInt) ∧ (TOKI k_kd k_nm)) (fun (q : (Int32) × (Int32) × (Int32) × (Nat → Int32) × (Nat → Int32) × (Nat → Int32)) => match q with | (k_t, k_a, k_i, k_kd, k_nm, k_pl) => Int.toNat (400 - k_i.toInt)) (0, 0, 0, f_kd, f_nm, f_pl) ⟨lv_sub hl [2, 1, 0, 3, 4, 5] rfl, hP, hD, hS, ⟨by decide, by decide⟩, ⟨by decide, by decide⟩, ⟨by decide, by decide⟩, Int.le_refl _, e_tk⟩ ?_
  rintro ⟨k_t, k_a, k_i, k_kd, k_nm, k_pl⟩ ls H locs ⟨hl, hP, hD, hS, i_1, i_2, i_3, i_4, i_5⟩ ih_8_6
  have hl : lv_has ls 7 [(3, .int k_t), (4, .int k_a), (5, .int k_i), (0, .ref a_tk), (1, .ref a_x), (2, .int p_n)] := hl
  have i_1 : 0 ≤ k_t.toInt ∧ k_t.toInt ≤ 400 := i_1
  have i_2 : 0 ≤ k_a.toInt ∧ k_a.toInt ≤ 400 := i_2
  have i_3 : 0 ≤ k_i.toInt ∧ k_i.toInt ≤ 400 := i_3
  have i_4 : k_t.toInt ≤ k_i.toInt := i_4
  have i_5 : TOKI k_kd k_nm := i_5
  refine g5_rs [(a_tk, (oc8 a_kd a_nm a_pl)), (a_kd, (arI G 401 k_kd)), (a_nm, (arI G 401 k_nm)), (a_pl, (arI G 401 k_pl)), (a_x, (arI G 400 f_x))] hP hD (fun hP hD => ?_)
  refine lv_iload hx hb dX8_cut_8 (lv_at hl 2 rfl) ?_
  refine lv_iload_n hx hb dX8_cut_10 rfl (lv_at hl 5 rfl) ?_
  refine lv_icmp_ge (tgt := 101) hx hb dX8_cut_11 (by decide) (fun c_7 => ?_) (fun c_7 => ?_)
  ·
    have i_7 : k_i.toInt ≥ p_n.toInt := by have z := g5_ge (a := k_i.toInt) (b := p_n.toInt) (by rfl) (by rfl) c_7; omega
    refine lv_aload_n hx hb dX8_cut_101 rfl (lv_at hl 3 rfl) ?_
    refine va_get (D := G.1) (ci := 8) (v := .ref a_pl) (C := RX8) (T := TX8) (N := 3) hx hb hts inG_X8 hown hK hP 0 rfl rfl 2 (by decide) (hts _ fl_X8_18) (fun _ h9 => h9) rfl dX8_cut_102 ?_
    refine lv_iload_n hx hb dX8_cut_105 rfl (lv_at hl 0 rfl) ?_
    refine lv_iload_n hx hb dX8_cut_106 rfl (lv_at hl 5 rfl) ?_
    refine va_iast hx hb hK hP hD hS 3 0 rfl rfl (i := k_t) (x := p_n) (vp_in_iff.mpr ⟨by omega, by omega⟩) dX8_cut_107 (fun H locs hP hD hS => ?_)
    refine g5_rs [(a_tk, (oc8 a_kd a_nm a_pl)), (a_kd, (arI G 401 k_kd)), (a_nm, (arI G 401 k_nm)), (a_pl, (arI G 401 (upd k_pl k_t.toNatClampNeg p_n))), (a_x, (arI G 400 f_x))] hP hD (fun hP hD => ?_)
    refine lv_aload_n hx hb dX8_cut_108 rfl (lv_at hl 3 rfl) ?_
    refine va_get (D := G.1) (ci := 8) (v := .ref a_kd) (C := RX8) (T := TX8) (N := 3) hx hb hts inG_X8 hown hK hP 0 rfl rfl 0 (by decide) (hts _ fl_X8_9) (fun _ h9 => h9) rfl dX8_cut_109 ?_
    refine lv_iload_n hx hb dX8_cut_112 rfl (lv_at hl 0 rfl) ?_
    refine lv_sipush (v := 302) hx hb dX8_cut_113 (by decide) ?_
    refine va_iast hx hb hK hP hD hS 1 0 rfl rfl (i := k_t) (x := 302) (vp_in_iff.mpr ⟨by omega, by omega⟩) dX8_cut_116 (fun H locs hP hD hS => ?_)
    refine g5_rs [(a_tk, (oc8 a_kd a_nm a_pl)), (a_kd, (arI G 401 (upd k_kd k_t.toNatClampNeg 302))), (a_nm, (arI G 401 k_nm)), (a_pl, (arI G 401 (upd k_pl k_t.toNatClampNeg p_n))), (a_x, (arI G 400 f_x))] hP hD (fun hP hD => ?_)
    exact W.vret hx hb hr (fun t ht hW => ⟨⟨[(a_tk, (oc8 a_kd a_nm a_pl)), (a_kd, (arI G 401 (upd k_kd k_t.toNatClampNeg 302))), (a_nm, (arI G 401 k_nm)), (a_pl, (arI G 401 (upd k_pl k_t.toNatClampNeg p_n))), (a_x, (arI G 400 f_x))], rfl, ⟨(upd k_kd k_t.toNatClampNeg 302), k_nm, (upd k_pl k_t.toNatClampNeg p_n), tok_end i_5, rfl⟩, by rw [ht]; exact hP.sub [0, 1, 2, 3, 4] rfl, hD.sub [0, 1, 2, 3, 4] (by decide) rfl⟩, hS.F ht⟩) hS.2.2 dX8_cut_117
  ·
    have i_7 : k_i.toInt < p_n.toInt := by have z := g5_geN (a := k_i.toInt) (b := p_n.toInt) (by rfl) (by rfl) c_7; omega
    refine lv_iload hx hb dX8_cut_14 (lv_at hl 1 rfl) ?_
    refine lv_iload_n hx hb dX8_cut_16 rfl (lv_at hl 5 rfl) ?_
    refine lv_icmp_ge (tgt := 101) hx hb dX8_cut_17 (by decide) (fun c_8 => ?_) (fun c_8 => ?_)
    ·
      have i_8 : k_a.toInt ≥ p_n.toInt := by have z := g5_ge (a := k_a.toInt) (b := p_n.toInt) (by rfl) (by rfl) c_8; omega
      refine lv_aload_n hx hb dX8_cut_101 rfl (lv_at hl 3 rfl) ?_
      refine va_get (D := G.1) (ci := 8) (v := .ref a_pl) (C := RX8) (T := TX8) (N := 3) hx hb hts inG_X8 hown hK hP 0 rfl rfl 2 (by decide) (hts _ fl_X8_18) (fun _ h9 => h9) rfl dX8_cut_102 ?_
      refine lv_iload_n hx hb dX8_cut_105 rfl (lv_at hl 0 rfl) ?_
      refine lv_iload_n hx hb dX8_cut_106 rfl (lv_at hl 5 rfl) ?_
      refine va_iast hx hb hK hP hD hS 3 0 rfl rfl (i := k_t) (x := p_n) (vp_in_iff.mpr ⟨by omega, by omega⟩) dX8_cut_107 (fun H locs hP hD hS => ?_)
      refine g5_rs [(a_tk, (oc8 a_kd a_nm a_pl)), (a_kd, (arI G 401 k_kd)), (a_nm, (arI G 401 k_nm)), (a_pl, (arI G 401 (upd k_pl k_t.toNatClampNeg p_n))), (a_x, (arI G 400 f_x))] hP hD (fun hP hD => ?_)
      refine lv_aload_n hx hb dX8_cut_108 rfl (lv_at hl 3 rfl) ?_
      refine va_get (D := G.1) (ci := 8) (v := .ref a_kd) (C := RX8) (T := TX8) (N := 3) hx hb hts inG_X8 hown hK hP 0 rfl rfl 0 (by decide) (hts _ fl_X8_9) (fun _ h9 => h9) rfl dX8_cut_109 ?_
      refine lv_iload_n hx hb dX8_cut_112 rfl (lv_at hl 0 rfl) ?_
      refine lv_sipush (v := 302) hx hb dX8_cut_113 (by decide) ?_
      refine va_iast hx hb hK hP hD hS 1 0 rfl rfl (i := k_t) (x := 302) (vp_in_iff.mpr ⟨by omega, by omega⟩) dX8_cut_116 (fun H locs hP hD hS => ?_)
      refine g5_rs [(a_tk, (oc8 a_kd a_nm a_pl)), (a_kd, (arI G 401 (upd k_kd k_t.toNatClampNeg 302))), (a_nm, (arI G 401 k_nm)), (a_pl, (arI G 401 (upd k_pl k_t.toNatClampNeg p_n))), (a_x, (arI G 400 f_x))] hP hD (fun hP hD => ?_)
      exact W.vret hx hb hr (fun t ht hW => ⟨⟨[(a_tk, (oc8 a_kd a_nm a_pl)), (a_kd, (arI G 401 (upd k_kd k_t.toNatClampNeg 302))), (a_nm, (arI G 401 k_nm)), (a_pl, (arI G 401 (upd k_pl k_t.toNatClampNeg p_n))), (a_x, (arI G 400 f_x))], rfl, ⟨(upd k_kd k_t.toNatClampNeg 302), k_nm, (upd k_pl k_t.toNatClampNeg p_n), tok_end i_5, rfl⟩, by rw [ht]; exact hP.sub [0, 1, 2, 3, 4] rfl, hD.sub [0, 1, 2, 3, 4] (by decide) rfl⟩, hS.F ht⟩) hS.2.2 dX8_cut_117
    ·
      have i_8 : k_a.toInt < p_n.toInt := by have z := g5_geN (a := k_a.toInt) (b := p_n.toInt) (by rfl) (by rfl) c_8; omega
      refine lv_aload_n hx hb dX8_cut_20 rfl (lv_at hl 4 rfl) ?_
      refine lv_iload hx hb dX8_cut_21 (lv_at hl 1 rfl) ?_
      refine lv_iload_n hx hb dX8_cut_23 rfl (lv_at hl 5 rfl) ?_
      obtain ⟨hPc, hDc, hFc⟩ := g5_sub3 (wc := [(a_x, (arI G 400 f_x))]) hP hD hS hA [4] (by decide) rfl
      refine va_calli (va_runS (As := [.ref a_x, .int k_a, .int p_n]) (rest := []) ⟨hx, hb, hml, hown, hts⟩ (k_endOf l G a_x H.size k_a p_n f_x ⟨by omega, by omega⟩ h_p_n (by omega)) (va_cwS 3 hts gS_X8_21 rfl rfl rfl hs_X8_endOf ⟨Nat.le_of_ble_eq_true rfl, Nat.le_of_ble_eq_true rfl⟩) (g5_preS hPc hK hDc hN hT hS hFc) rfl rfl hl.1 rfl (lv_room (Nat.le_of_ble_eq_true rfl)) dX8_cut_24 ⟨Nat.le_of_ble_eq_true rfl, Nat.le_of_ble_eq_true rfl⟩) hS (fun q _ h => hFc q h) hFc (fun r u t H1 locs ht hvm hw hB hz1 hk1 hS => ?_)
      obtain ⟨hP1, hD1⟩ := hB
      rw [ht] at hP1
      obtain ⟨z10, i_9, y11, rfl⟩ := hw
      have i_9 : k_a.toInt < z10.toInt ∧ z10.toInt ≤ p_n.toInt := i_9
      obtain ⟨hP, hD⟩ := va_join (wr := [(a_tk, (oc8 a_kd a_nm a_pl)), (a_kd, (arI G 401 k_kd)), (a_nm, (arI G 401 k_nm)), (a_pl, (arI G 401 k_pl))]) hP hD [4] [0, 1, 2, 3] rfl rfl (by decide) (by decide) hk1 hFc hP1 hD1
      generalize H1 = H at hP hS ⊢
      refine g5_rs [(a_tk, (oc8 a_kd a_nm a_pl)), (a_kd, (arI G 401 k_kd)), (a_nm, (arI G 401 k_nm)), (a_pl, (arI G 401 k_pl)), (a_x, (arI G 400 f_x))] hP hD (fun hP hD => ?_)
      refine g5_ti (v := z10) y11 ?_
      refine lv_istore (lv' := [(6, .int z10), (3, .int k_t), (4, .int k_a), (5, .int k_i), (0, .ref a_tk), (1, .ref a_x), (2, .int p_n)]) hx hb dX8_cut_27 hl (by decide) rfl (fun ls hl => ?_)
      refine lv_aload_n hx hb dX8_cut_29 rfl (lv_at hl 5 rfl) ?_
      refine lv_iload hx hb dX8_cut_30 (lv_at hl 2 rfl) ?_
      refine va_iald hx hb hK hP 4 0 rfl rfl (i := k_a) (vp_in_iff.mpr ⟨by omega, by omega⟩) dX8_cut_32 ?_
      refine lv_bipush (v := 32) hx hb dX8_cut_33 (by decide) ?_
      refine lv_icmp_eq (tgt := 91) hx hb dX8_cut_35 (by decide) (fun c_12 => ?_) (fun c_12 => ?_)
      ·
        have i_12 : (f_x k_a.toNatClampNeg).toInt = 32 := by have z := g5_eq (a := (f_x k_a.toNatClampNeg).toInt) (b := 32) (by rfl) (by decide) c_12; omega
        refine lv_iload hx hb dX8_cut_91 (lv_at hl 0 rfl) ?_
        refine lv_istore (lv' := [(4, .int z10), (6, .int z10), (3, .int k_t), (5, .int k_i), (0, .ref a_tk), (1, .ref a_x), (2, .int p_n)]) hx hb dX8_cut_93 hl (by decide) rfl (fun ls hl => ?_)
        refine lv_iinc (v := (k_i + 1)) (lv' := [(5, .int (k_i + 1)), (4, .int z10), (6, .int z10), (3, .int k_t), (0, .ref a_tk), (1, .ref a_x), (2, .int p_n)]) hx hb dX8_cut_95 hl (k := 3) rfl rfl (by decide) rfl (fun ls hl => ?_)
        have t_13 : (k_i + 1).toInt = k_i.toInt + 1 := g5_iadd (a := k_i.toInt) (b := 1) rfl (by decide) (by omega) (by omega)
        refine lv_goto (tgt := 8) hx hb dX8_cut_98 (by decide) ?_
        exact ih_8_6 (k_t, z10, (k_i + 1), k_kd, k_nm, k_pl) ls H locs (show Int.toNat (400 - (k_i + 1).toInt) < Int.toNat (400 - k_i.toInt) from g_up (show k_i.toInt < (k_i + 1).toInt by omega) (show k_i.toInt < 400 by omega)) ⟨lv_sub hl [3, 1, 0, 4, 5, 6] rfl, hP, hD, hS, i_1, ⟨by omega, by omega⟩, ⟨by omega, by omega⟩, by omega, i_5⟩
      ·
        have n_12 : gNe ((f_x k_a.toNatClampNeg).toInt) (32) := by have z := g5_eqN (a := (f_x k_a.toNatClampNeg).toInt) (b := 32) (by rfl) (by decide) c_12; unfold gNe; omega
        refine lv_aload_n hx hb dX8_cut_38 rfl (lv_at hl 4 rfl) ?_
        refine va_get (D := G.1) (ci := 8) (v := .ref a_pl) (C := RX8) (T := TX8) (N := 3) hx hb hts inG_X8 hown hK hP 0 rfl rfl 2 (by decide) (hts _ fl_X8_18) (fun _ h9 => h9) rfl dX8_cut_39 ?_
        refine lv_iload_n hx hb dX8_cut_42 rfl (lv_at hl 1 rfl) ?_
        refine lv_iload hx hb dX8_cut_43 (lv_at hl 2 rfl) ?_
        refine va_iast hx hb hK hP hD hS 3 0 rfl rfl (i := k_t) (x := k_a) (vp_in_iff.mpr ⟨by omega, by omega⟩) dX8_cut_45 (fun H locs hP hD hS => ?_)
        refine g5_rs [(a_tk, (oc8 a_kd a_nm a_pl)), (a_kd, (arI G 401 k_kd)), (a_nm, (arI G 401 k_nm)), (a_pl, (arI G 401 (upd k_pl k_t.toNatClampNeg k_a))), (a_x, (arI G 400 f_x))] hP hD (fun hP hD => ?_)
        refine lv_aload_n hx hb dX8_cut_46 rfl (lv_at hl 4 rfl) ?_
        refine va_get (D := G.1) (ci := 8) (v := .ref a_nm) (C := RX8) (T := TX8) (N := 3) hx hb hts inG_X8 hown hK hP 0 rfl rfl 1 (by decide) (hts _ fl_X8_15) (fun _ h9 => h9) rfl dX8_cut_47 ?_
        refine lv_iload_n hx hb dX8_cut_50 rfl (lv_at hl 1 rfl) ?_
        refine lv_aload_n hx hb dX8_cut_51 rfl (lv_at hl 5 rfl) ?_
        refine lv_iload hx hb dX8_cut_52 (lv_at hl 2 rfl) ?_
        refine va_iald hx hb hK hP 4 0 rfl rfl (i := k_a) (vp_in_iff.mpr ⟨by omega, by omega⟩) dX8_cut_54 ?_
        obtain ⟨hPc, hDc, hFc⟩ := g5_sub3 (wc := []) hP hD hS hA [] (by decide) rfl
        refine va_calli (va_runS (As := [.int (f_x k_a.toNatClampNeg)]) (rest := [.int k_t, .ref a_nm]) ⟨hx, hb, hml, hown, hts⟩ (k_digit l G H.size (f_x k_a.toNatClampNeg)) (va_cwS 1 hts gS_X8_25 rfl rfl rfl hs_X8_isDigit ⟨Nat.le_of_ble_eq_true rfl, Nat.le_of_ble_eq_true rfl⟩) (g5_preS hPc hK hDc hN hT hS hFc) rfl rfl hl.1 rfl (lv_room (Nat.le_of_ble_eq_true rfl)) dX8_cut_55 ⟨Nat.le_of_ble_eq_true rfl, Nat.le_of_ble_eq_true rfl⟩) hS (fun q _ h => hFc q h) hFc (fun r u t H1 locs ht hvm hw hB hz1 hk1 hS => ?_)
        obtain ⟨hP1, hD1⟩ := hB
        rw [ht] at hP1
        rcases hw with ⟨i_14, rfl, rfl⟩ | ⟨i_15, rfl, rfl⟩
        ·
          have i_14 : 48 ≤ (f_x k_a.toNatClampNeg).toInt ∧ (f_x k_a.toNatClampNeg).toInt ≤ 57 := i_14
          have hP := g5_same hP hk1
          generalize H1 = H at hP hS ⊢
          refine lv_if_eq (tgt := 72) hx hb dX8_cut_58 (by decide) (fun c_16 => ?_) (fun c_16 => ?_)
          ·
            exact absurd c_16 (by decide)
          ·
            refine lv_aload_n hx hb dX8_cut_61 rfl (lv_at hl 5 rfl) ?_
            refine lv_iload hx hb dX8_cut_62 (lv_at hl 2 rfl) ?_
            refine lv_iload hx hb dX8_cut_64 (lv_at hl 0 rfl) ?_
            obtain ⟨hPc, hDc, hFc⟩ := g5_sub3 (wc := [(a_x, (arI G 400 f_x))]) hP hD hS hA [4] (by decide) rfl
            refine va_calli (va_runS (As := [.ref a_x, .int k_a, .int z10]) (rest := [.int k_t, .ref a_nm]) ⟨hx, hb, hml, hown, hts⟩ (k_number l G a_x H.size k_a z10 f_x i_2 ⟨by omega, by omega⟩) (va_cwS 3 hts gS_X8_29 rfl rfl rfl hs_X8_numberIn ⟨Nat.le_of_ble_eq_true rfl, Nat.le_of_ble_eq_true rfl⟩) (g5_preS hPc hK hDc hN hT hS hFc) rfl rfl hl.1 rfl (lv_room (Nat.le_of_ble_eq_true rfl)) dX8_cut_66 ⟨Nat.le_of_ble_eq_true rfl, Nat.le_of_ble_eq_true rfl⟩) hS (fun q _ h => hFc q h) hFc (fun r u t H1 locs ht hvm hw hB hz1 hk1 hS => ?_)
            obtain ⟨hP1, hD1⟩ := hB
            rw [ht] at hP1
            obtain ⟨z18, i_17, y19, rfl⟩ := hw
            have i_17 : z18 = nmbO f_x k_a z10 0 := i_17
            obtain ⟨hP, hD⟩ := va_join (wr := [(a_tk, (oc8 a_kd a_nm a_pl)), (a_kd, (arI G 401 k_kd)), (a_nm, (arI G 401 k_nm)), (a_pl, (arI G 401 (upd k_pl k_t.toNatClampNeg k_a)))]) hP hD [4] [0, 1, 2, 3] rfl rfl (by decide) (by decide) hk1 hFc hP1 hD1
            generalize H1 = H at hP hS ⊢
            refine g5_rs [(a_tk, (oc8 a_kd a_nm a_pl)), (a_kd, (arI G 401 k_kd)), (a_nm, (arI G 401 k_nm)), (a_pl, (arI G 401 (upd k_pl k_t.toNatClampNeg k_a))), (a_x, (arI G 400 f_x))] hP hD (fun hP hD => ?_)
            refine g5_ti (v := z18) y19 ?_
            refine lv_goto (tgt := 73) hx hb dX8_cut_69 (by decide) ?_
            refine va_iast hx hb hK hP hD hS 2 0 rfl rfl (i := k_t) (x := z18) (vp_in_iff.mpr ⟨by omega, by omega⟩) dX8_cut_73 (fun H locs hP hD hS => ?_)
            refine g5_rs [(a_tk, (oc8 a_kd a_nm a_pl)), (a_kd, (arI G 401 k_kd)), (a_nm, (arI G 401 (upd k_nm k_t.toNatClampNeg z18))), (a_pl, (arI G 401 (upd k_pl k_t.toNatClampNeg k_a))), (a_x, (arI G 400 f_x))] hP hD (fun hP hD => ?_)
            refine lv_aload_n hx hb dX8_cut_74 rfl (lv_at hl 4 rfl) ?_
            refine va_get (D := G.1) (ci := 8) (v := .ref a_kd) (C := RX8) (T := TX8) (N := 3) hx hb hts inG_X8 hown hK hP 0 rfl rfl 0 (by decide) (hts _ fl_X8_9) (fun _ h9 => h9) rfl dX8_cut_75 ?_
            refine lv_iload_n hx hb dX8_cut_78 rfl (lv_at hl 1 rfl) ?_
            refine lv_aload_n hx hb dX8_cut_79 rfl (lv_at hl 5 rfl) ?_
            refine lv_iload hx hb dX8_cut_80 (lv_at hl 2 rfl) ?_
            refine lv_iload hx hb dX8_cut_82 (lv_at hl 0 rfl) ?_
            obtain ⟨hPc, hDc, hFc⟩ := g5_sub3 (wc := [(a_x, (arI G 400 f_x))]) hP hD hS hA [4] (by decide) rfl
            refine va_calli (va_runS (As := [.ref a_x, .int k_a, .int z10]) (rest := [.int k_t, .ref a_kd]) ⟨hx, hb, hml, hown, hts⟩ (k_kindOf l G a_x H.size k_a z10 f_x ⟨by omega, by omega⟩ ⟨by omega, by omega⟩) (va_cwS 3 hts gS_X8_32 rfl rfl rfl hs_X8_kindOf ⟨Nat.le_of_ble_eq_true rfl, Nat.le_of_ble_eq_true rfl⟩) (g5_preS hPc hK hDc hN hT hS hFc) rfl rfl hl.1 rfl (lv_room (Nat.le_of_ble_eq_true rfl)) dX8_cut_84 ⟨Nat.le_of_ble_eq_true rfl, Nat.le_of_ble_eq_true rfl⟩) hS (fun q _ h => hFc q h) hFc (fun r u t H1 locs ht hvm hw hB hz1 hk1 hS => ?_)
            obtain ⟨hP1, hD1⟩ := hB
            rw [ht] at hP1
            obtain ⟨z21, i_20, y22, rfl⟩ := hw
            have i_20 : 48 ≤ (f_x k_a.toNatClampNeg).toInt ∧ (f_x k_a.toNatClampNeg).toInt ≤ 57 → z21 = 300 → (nmbO f_x k_a z10 0).toInt ≤ 1000 := i_20
            obtain ⟨hP, hD⟩ := va_join (wr := [(a_tk, (oc8 a_kd a_nm a_pl)), (a_kd, (arI G 401 k_kd)), (a_nm, (arI G 401 (upd k_nm k_t.toNatClampNeg z18))), (a_pl, (arI G 401 (upd k_pl k_t.toNatClampNeg k_a)))]) hP hD [4] [0, 1, 2, 3] rfl rfl (by decide) (by decide) hk1 hFc hP1 hD1
            generalize H1 = H at hP hS ⊢
            refine g5_rs [(a_tk, (oc8 a_kd a_nm a_pl)), (a_kd, (arI G 401 k_kd)), (a_nm, (arI G 401 (upd k_nm k_t.toNatClampNeg z18))), (a_pl, (arI G 401 (upd k_pl k_t.toNatClampNeg k_a))), (a_x, (arI G 400 f_x))] hP hD (fun hP hD => ?_)
            refine g5_ti (v := z21) y22 ?_
            refine va_iast hx hb hK hP hD hS 1 0 rfl rfl (i := k_t) (x := z21) (vp_in_iff.mpr ⟨by omega, by omega⟩) dX8_cut_87 (fun H locs hP hD hS => ?_)
            refine g5_rs [(a_tk, (oc8 a_kd a_nm a_pl)), (a_kd, (arI G 401 (upd k_kd k_t.toNatClampNeg z21))), (a_nm, (arI G 401 (upd k_nm k_t.toNatClampNeg z18))), (a_pl, (arI G 401 (upd k_pl k_t.toNatClampNeg k_a))), (a_x, (arI G 400 f_x))] hP hD (fun hP hD => ?_)
            refine lv_iinc (v := (k_t + 1)) (lv' := [(3, .int (k_t + 1)), (6, .int z10), (4, .int k_a), (5, .int k_i), (0, .ref a_tk), (1, .ref a_x), (2, .int p_n)]) hx hb dX8_cut_88 hl (k := 1) rfl rfl (by decide) rfl (fun ls hl => ?_)
            have t_23 : (k_t + 1).toInt = k_t.toInt + 1 := g5_iadd (a := k_t.toInt) (b := 1) rfl (by decide) (by omega) (by omega)
            refine lv_iload hx hb dX8_cut_91 (lv_at hl 1 rfl) ?_
            refine lv_istore (lv' := [(4, .int z10), (3, .int (k_t + 1)), (6, .int z10), (5, .int k_i), (0, .ref a_tk), (1, .ref a_x), (2, .int p_n)]) hx hb dX8_cut_93 hl (by decide) rfl (fun ls hl => ?_)
            refine lv_iinc (v := (k_i + 1)) (lv' := [(5, .int (k_i + 1)), (4, .int z10), (3, .int (k_t + 1)), (6, .int z10), (0, .ref a_tk), (1, .ref a_x), (2, .int p_n)]) hx hb dX8_cut_95 hl (k := 3) rfl rfl (by decide) rfl (fun ls hl => ?_)
            have t_24 : (k_i + 1).toInt = k_i.toInt + 1 := g5_iadd (a := k_i.toInt) (b := 1) rfl (by decide) (by omega) (by omega)
            refine lv_goto (tgt := 8) hx hb dX8_cut_98 (by decide) ?_
            exact ih_8_6 ((k_t + 1), z10, (k_i + 1), (upd k_kd k_t.toNatClampNeg z21), (upd k_nm k_t.toNatClampNeg z18), (upd k_pl k_t.toNatClampNeg k_a)) ls H locs (show Int.toNat (400 - (k_i + 1).toInt) < Int.toNat (400 - k_i.toInt) from g_up (show k_i.toInt < (k_i + 1).toInt by omega) (show k_i.toInt < 400 by omega)) ⟨lv_sub hl [2, 1, 0, 4, 5, 6] rfl, hP, hD, hS, ⟨by omega, by omega⟩, ⟨by omega, by omega⟩, ⟨by omega, by omega⟩, by omega, tok_set i_5 (fun h => by rw [i_17]; exact i_20 i_14 h)⟩
        ·
          have i_15 : (f_x k_a.toNatClampNeg).toInt < 48 ∨ 57 < (f_x k_a.toNatClampNeg).toInt := i_15
          have hP := g5_same hP hk1
          generalize H1 = H at hP hS ⊢
          refine lv_if_eq (tgt := 72) hx hb dX8_cut_58 (by decide) (fun c_25 => ?_) (fun c_25 => ?_)
          ·
            refine lv_iconst (v := 0) hx hb dX8_cut_72 (by decide) ?_
            refine va_iast hx hb hK hP hD hS 2 0 rfl rfl (i := k_t) (x := 0) (vp_in_iff.mpr ⟨by omega, by omega⟩) dX8_cut_73 (fun H locs hP hD hS => ?_)
            refine g5_rs [(a_tk, (oc8 a_kd a_nm a_pl)), (a_kd, (arI G 401 k_kd)), (a_nm, (arI G 401 (upd k_nm k_t.toNatClampNeg 0))), (a_pl, (arI G 401 (upd k_pl k_t.toNatClampNeg k_a))), (a_x, (arI G 400 f_x))] hP hD (fun hP hD => ?_)
            refine lv_aload_n hx hb dX8_cut_74 rfl (lv_at hl 4 rfl) ?_
            refine va_get (D := G.1) (ci := 8) (v := .ref a_kd) (C := RX8) (T := TX8) (N := 3) hx hb hts inG_X8 hown hK hP 0 rfl rfl 0 (by decide) (hts _ fl_X8_9) (fun _ h9 => h9) rfl dX8_cut_75 ?_
            refine lv_iload_n hx hb dX8_cut_78 rfl (lv_at hl 1 rfl) ?_
            refine lv_aload_n hx hb dX8_cut_79 rfl (lv_at hl 5 rfl) ?_
            refine lv_iload hx hb dX8_cut_80 (lv_at hl 2 rfl) ?_
            refine lv_iload hx hb dX8_cut_82 (lv_at hl 0 rfl) ?_
            obtain ⟨hPc, hDc, hFc⟩ := g5_sub3 (wc := [(a_x, (arI G 400 f_x))]) hP hD hS hA [4] (by decide) rfl
            refine va_calli (va_runS (As := [.ref a_x, .int k_a, .int z10]) (rest := [.int k_t, .ref a_kd]) ⟨hx, hb, hml, hown, hts⟩ (k_kindOf l G a_x H.size k_a z10 f_x ⟨by omega, by omega⟩ ⟨by omega, by omega⟩) (va_cwS 3 hts gS_X8_32 rfl rfl rfl hs_X8_kindOf ⟨Nat.le_of_ble_eq_true rfl, Nat.le_of_ble_eq_true rfl⟩) (g5_preS hPc hK hDc hN hT hS hFc) rfl rfl hl.1 rfl (lv_room (Nat.le_of_ble_eq_true rfl)) dX8_cut_84 ⟨Nat.le_of_ble_eq_true rfl, Nat.le_of_ble_eq_true rfl⟩) hS (fun q _ h => hFc q h) hFc (fun r u t H1 locs ht hvm hw hB hz1 hk1 hS => ?_)
            obtain ⟨hP1, hD1⟩ := hB
            rw [ht] at hP1
            obtain ⟨z27, i_26, y28, rfl⟩ := hw
            have i_26 : 48 ≤ (f_x k_a.toNatClampNeg).toInt ∧ (f_x k_a.toNatClampNeg).toInt ≤ 57 → z27 = 300 → (nmbO f_x k_a z10 0).toInt ≤ 1000 := i_26
            obtain ⟨hP, hD⟩ := va_join (wr := [(a_tk, (oc8 a_kd a_nm a_pl)), (a_kd, (arI G 401 k_kd)), (a_nm, (arI G 401 (upd k_nm k_t.toNatClampNeg 0))), (a_pl, (arI G 401 (upd k_pl k_t.toNatClampNeg k_a)))]) hP hD [4] [0, 1, 2, 3] rfl rfl (by decide) (by decide) hk1 hFc hP1 hD1
            generalize H1 = H at hP hS ⊢
            refine g5_rs [(a_tk, (oc8 a_kd a_nm a_pl)), (a_kd, (arI G 401 k_kd)), (a_nm, (arI G 401 (upd k_nm k_t.toNatClampNeg 0))), (a_pl, (arI G 401 (upd k_pl k_t.toNatClampNeg k_a))), (a_x, (arI G 400 f_x))] hP hD (fun hP hD => ?_)
            refine g5_ti (v := z27) y28 ?_
            refine va_iast hx hb hK hP hD hS 1 0 rfl rfl (i := k_t) (x := z27) (vp_in_iff.mpr ⟨by omega, by omega⟩) dX8_cut_87 (fun H locs hP hD hS => ?_)
            refine g5_rs [(a_tk, (oc8 a_kd a_nm a_pl)), (a_kd, (arI G 401 (upd k_kd k_t.toNatClampNeg z27))), (a_nm, (arI G 401 (upd k_nm k_t.toNatClampNeg 0))), (a_pl, (arI G 401 (upd k_pl k_t.toNatClampNeg k_a))), (a_x, (arI G 400 f_x))] hP hD (fun hP hD => ?_)
            refine lv_iinc (v := (k_t + 1)) (lv' := [(3, .int (k_t + 1)), (6, .int z10), (4, .int k_a), (5, .int k_i), (0, .ref a_tk), (1, .ref a_x), (2, .int p_n)]) hx hb dX8_cut_88 hl (k := 1) rfl rfl (by decide) rfl (fun ls hl => ?_)
            have t_29 : (k_t + 1).toInt = k_t.toInt + 1 := g5_iadd (a := k_t.toInt) (b := 1) rfl (by decide) (by omega) (by omega)
            refine lv_iload hx hb dX8_cut_91 (lv_at hl 1 rfl) ?_
            refine lv_istore (lv' := [(4, .int z10), (3, .int (k_t + 1)), (6, .int z10), (5, .int k_i), (0, .ref a_tk), (1, .ref a_x), (2, .int p_n)]) hx hb dX8_cut_93 hl (by decide) rfl (fun ls hl => ?_)
            refine lv_iinc (v := (k_i + 1)) (lv' := [(5, .int (k_i + 1)), (4, .int z10), (3, .int (k_t + 1)), (6, .int z10), (0, .ref a_tk), (1, .ref a_x), (2, .int p_n)]) hx hb dX8_cut_95 hl (k := 3) rfl rfl (by decide) rfl (fun ls hl => ?_)
            have t_30 : (k_i + 1).toInt = k_i.toInt + 1 := g5_iadd (a := k_i.toInt) (b := 1) rfl (by decide) (by omega) (by omega)
            refine lv_goto (tgt := 8) hx hb dX8_cut_98 (by decide) ?_
            exact ih_8_6 ((k_t + 1), z10, (k_i + 1), (upd k_kd k_t.toNatClampNeg z27), (upd k_nm k_t.toNatClampNeg 0), (upd k_pl k_t.toNatClampNeg k_a)) ls H locs (show Int.toNat (400 - (k_i + 1).toInt) < Int.toNat (400 - k_i.toInt) from g_up (show k_i.toInt < (k_i + 1).toInt by omega) (show k_i.toInt < 400 by omega)) ⟨lv_sub hl [2, 1, 0, 4, 5, 6] rfl, hP, hD, hS, ⟨by omega, by omega⟩, ⟨by omega, by omega⟩, ⟨by omega, by omega⟩, by omega, tok_set i_5 (fun _ => by decide)⟩
          ·
            exact absurd c_25 (by decide)
theorem dgX4_isNext_0 : ∀ r ∈ ([(0, (.aload_n 0, 1)), (1, (.getfield 42, 3)), (4, (.aload_n 0, 1)), (5, (.getfield 12, 3)), (8, (.getfield 96, 3)), (11, (.arraylength, 1)), (12, (.if_icmp .ge 23, 3)), (15, (.aload_n 0, 1)), (16, (.getfield 12, 3)), (19, (.getfield 96, 3)), (22, (.aload_n 0, 1)), (23, (.getfield 42, 3)), (26, (.iaload, 1)), (27, (.iload_n 1, 1)), (28, (.if_icmp .ne 7, 3)), (31, (.iconst 1, 1)), (32, (.goto 4, 3)), (35, (.iconst 0, 1)), (36, (.ireturn, 1))] : List (Nat × (Instr × Nat))), decode cX4_isNext r.1 = .ok r.2 := by decide +kernel
theorem dX4_isNext_0 : decode cX4_isNext 0 = .ok (.aload_n 0, 1) := dgX4_isNext_0 (0, (.aload_n 0, 1)) (List.mem_of_getElem? (i := 0) rfl)
theorem dX4_isNext_1 : decode cX4_isNext 1 = .ok (.getfield 42, 3) := dgX4_isNext_0 (1, (.getfield 42, 3)) (List.mem_of_getElem? (i := 1) rfl)
theorem dX4_isNext_4 : decode cX4_isNext 4 = .ok (.aload_n 0, 1) := dgX4_isNext_0 (4, (.aload_n 0, 1)) (List.mem_of_getElem? (i := 2) rfl)
theorem dX4_isNext_5 : decode cX4_isNext 5 = .ok (.getfield 12, 3) := dgX4_isNext_0 (5, (.getfield 12, 3)) (List.mem_of_getElem? (i := 3) rfl)
theorem dX4_isNext_8 : decode cX4_isNext 8 = .ok (.getfield 96, 3) := dgX4_isNext_0 (8, (.getfield 96, 3)) (List.mem_of_getElem? (i := 4) rfl)
theorem dX4_isNext_11 : decode cX4_isNext 11 = .ok (.arraylength, 1) := dgX4_isNext_0 (11, (.arraylength, 1)) (List.mem_of_getElem? (i := 5) rfl)
theorem dX4_isNext_12 : decode cX4_isNext 12 = .ok (.if_icmp .ge 23, 3) := dgX4_isNext_0 (12, (.if_icmp .ge 23, 3)) (List.mem_of_getElem? (i := 6) rfl)
theorem dX4_isNext_15 : decode cX4_isNext 15 = .ok (.aload_n 0, 1) := dgX4_isNext_0 (15, (.aload_n 0, 1)) (List.mem_of_getElem? (i := 7) rfl)
theorem dX4_isNext_16 : decode cX4_isNext 16 = .ok (.getfield 12, 3) := dgX4_isNext_0 (16, (.getfield 12, 3)) (List.mem_of_getElem? (i := 8) rfl)
theorem dX4_isNext_19 : decode cX4_isNext 19 = .ok (.getfield 96, 3) := dgX4_isNext_0 (19, (.getfield 96, 3)) (List.mem_of_getElem? (i := 9) rfl)
theorem dX4_isNext_22 : decode cX4_isNext 22 = .ok (.aload_n 0, 1) := dgX4_isNext_0 (22, (.aload_n 0, 1)) (List.mem_of_getElem? (i := 10) rfl)
theorem dX4_isNext_23 : decode cX4_isNext 23 = .ok (.getfield 42, 3) := dgX4_isNext_0 (23, (.getfield 42, 3)) (List.mem_of_getElem? (i := 11) rfl)
theorem dX4_isNext_26 : decode cX4_isNext 26 = .ok (.iaload, 1) := dgX4_isNext_0 (26, (.iaload, 1)) (List.mem_of_getElem? (i := 12) rfl)
theorem dX4_isNext_27 : decode cX4_isNext 27 = .ok (.iload_n 1, 1) := dgX4_isNext_0 (27, (.iload_n 1, 1)) (List.mem_of_getElem? (i := 13) rfl)
theorem dX4_isNext_28 : decode cX4_isNext 28 = .ok (.if_icmp .ne 7, 3) := dgX4_isNext_0 (28, (.if_icmp .ne 7, 3)) (List.mem_of_getElem? (i := 14) rfl)
theorem dX4_isNext_31 : decode cX4_isNext 31 = .ok (.iconst 1, 1) := dgX4_isNext_0 (31, (.iconst 1, 1)) (List.mem_of_getElem? (i := 15) rfl)
theorem dX4_isNext_32 : decode cX4_isNext 32 = .ok (.goto 4, 3) := dgX4_isNext_0 (32, (.goto 4, 3)) (List.mem_of_getElem? (i := 16) rfl)
theorem dX4_isNext_35 : decode cX4_isNext 35 = .ok (.iconst 0, 1) := dgX4_isNext_0 (35, (.iconst 0, 1)) (List.mem_of_getElem? (i := 17) rfl)
theorem dX4_isNext_36 : decode cX4_isNext 36 = .ok (.ireturn, 1) := dgX4_isNext_0 (36, (.ireturn, 1)) (List.mem_of_getElem? (i := 18) rfl)
theorem inG_X4 : ∀ w ∈ wsX40, w ∈ tblG := tgs [427, 429, 431, 433, 435, 437, 439, 441] (by decide +kernel) (by decide +kernel)
theorem fl_X4_42 : Cond.fieldLink RX4 42 "LateGlass$LawReader" "at" "I" ∈ tblG := tg 424 (by decide +kernel) (by decide +kernel)
theorem fl_X4_12 : Cond.fieldLink RX4 12 "LateGlass$LawReader" "tokens" "LLateGlass$Tokens;" ∈ tblG := tg 418 (by decide +kernel) (by decide +kernel)
theorem fl_X4_96 : Cond.fieldLink RX4 96 "LateGlass$Tokens" "kinds" "[I" ∈ tblG := tg 406 (by decide +kernel) (by decide +kernel)
set_option maxHeartbeats 4000000 in
set_option maxRecDepth 100000 in
theorem r_isNext (l : Launch) (G : g5_G) (a_r a_tk a_kd a_rh a_rs a_rc a_nm a_pl : Nat) (sz : Nat) (e_ln : Int32) (e_pa : Int32) (e_at : Int32) (e_fp : Int32) (p_k : Int32) (f_kd : Nat → Int32) (h_e_ln : 0 ≤ e_ln.toInt ∧ e_ln.toInt ≤ 400) (h_e_pa : 0 ≤ e_pa.toInt ∧ e_pa.toInt ≤ 50) (h_e_at : 0 ≤ e_at.toInt ∧ e_at.toInt ≤ 401) : Met l yX4_isNext (wsG yX4_isNext cX4_isNext 2 (some .boolean)) ({ frames := 0, cells := 0, slots := 0, locals := 0 }) (va_Pc [.ref a_r, .int p_k] (g5_P G [(a_r, (oc4 a_tk a_rh a_rs a_rc e_ln e_pa e_at e_fp)), (a_tk, (oc8 a_kd a_nm a_pl)), (a_kd, (arI G 401 f_kd))] sz)) (va_Qi (fun (r : Int32) (u : va_W) => ((e_at.toInt ≤ 400) ∧ (f_kd e_at.toNatClampNeg = p_k) ∧ (r = 1) ∧ (u = [(a_r, (oc4 a_tk a_rh a_rs a_rc e_ln e_pa e_at e_fp)), (a_tk, (oc8 a_kd a_nm a_pl)), (a_kd, (arI G 401 f_kd))])) ∨ ((r = 0) ∧ (u = [(a_r, (oc4 a_tk a_rh a_rs a_rc e_ln e_pa e_at e_fp)), (a_tk, (oc8 a_kd a_nm a_pl)), (a_kd, (arI G 401 f_kd))]))) (g5_B G (va_A [(a_r, (oc4 a_tk a_rh a_rs a_rc e_ln e_pa e_at e_fp)), (a_tk, (oc8 a_kd a_nm a_pl)), (a_kd, (arI G 401 f_kd))] sz)) (va_A [(a_r, (oc4 a_tk a_rh a_rs a_rc e_ln e_pa e_at e_fp)), (a_tk, (oc8 a_kd a_nm a_pl)), (a_kd, (arI G 401 f_kd))] sz)) 0 0 (va_A [(a_r, (oc4 a_tk a_rh a_rs a_rc e_ln e_pa e_at e_fp)), (a_tk, (oc8 a_kd a_nm a_pl)), (a_kd, (arI G 401 f_kd))] sz) := by
  refine Met.ofW (cc := cX4_isNext) (maxL := 2) (ret := (some .boolean)) (by decide) rfl ?_
  intro p e s m args below meth c s₁ B hml hv
  obtain ⟨rfl, hsz, hP, hK, hD0, hN, hT⟩ := hv
  have hx := B.exec
  have hb := B.bytes
  have hr := B.returns
  have hts : ∀ w ∈ tblG, w.before _ s = true := fun w h => atoms_spec (ws := (wsG yX4_isNext cX4_isNext 2 (some .boolean))) B.pre w (List.mem_cons_of_mem _ h)
  have hown : s.vm.findClass RX4 = some m.cls := findClass_of_methodNamed B.named
  have hlocks := B.notSynchronized
  subst hsz
  have hD := hD0.self (sz := s.heap.size)
  generalize hAe : va_A [(a_r, (oc4 a_tk a_rh a_rs a_rc e_ln e_pa e_at e_fp)), (a_tk, (oc8 a_kd a_nm a_pl)), (a_kd, (arI G 401 f_kd))] s.heap.size = A at hD hT ⊢
  have hA : ∀ q : Nat, s.heap.size ≤ q → A q := fun q h => by rw [← hAe]; exact Or.inr h
  have hS : va_S A s.heap s.heap [] := va_S.rf
  have hP : va_P G.1 vwCl [(a_r, (oc4 a_tk a_rh a_rs a_rc e_ln e_pa e_at e_fp)), (a_tk, (oc8 a_kd a_nm a_pl)), (a_kd, (arI G 401 f_kd))] s.heap := hP
  have hl := lv_entry ([.ref a_r, .int p_k]) (n := 2) (Nat.le_of_ble_eq_true rfl)
  rw [lg_entry_eq]
  generalize (lg_sl ([.ref a_r, .int p_k]) ++ List.replicate (2 - (lg_sl ([.ref a_r, .int p_k])).length) Slot.unset).toArray = ls at hl ⊢
  have hl : lv_has ls 2 [(0, .ref a_r), (1, .int p_k)] := hl
  refine lv_aload_n hx hb dX4_isNext_0 rfl (lv_at hl 0 rfl) ?_
  refine va_get (D := G.1) (ci := 4) (v := .int e_at) (C := RX4) (T := TX4) (N := 8) hx hb hts inG_X4 hown hK hP 0 rfl rfl 6 (by decide) (hts _ fl_X4_42) (fun _ h9 => h9) rfl dX4_isNext_1 ?_
  refine lv_aload_n hx hb dX4_isNext_4 rfl (lv_at hl 0 rfl) ?_
  refine va_get (D := G.1) (ci := 4) (v := .ref a_tk) (C := RX4) (T := TX4) (N := 8) hx hb hts inG_X4 hown hK hP 0 rfl rfl 0 (by decide) (hts _ fl_X4_12) (fun _ h9 => h9) rfl dX4_isNext_5 ?_
  refine va_get (D := G.1) (ci := 8) (v := .ref a_kd) (C := RX8) (T := TX8) (N := 3) hx hb hts inG_X8 hown hK hP 1 rfl rfl 0 (by decide) (hts _ fl_X4_96) (fun _ h9 => h9) rfl dX4_isNext_8 ?_
  refine va_alen hx hb hK hP 2 0 rfl rfl (v := 401) (by show Int32.ofNat 401 = 401; decide) dX4_isNext_11 ?_
  refine lv_icmp_ge (tgt := 35) hx hb dX4_isNext_12 (by decide) (fun c_1 => ?_) (fun c_1 => ?_)
  ·
    have i_1 : e_at.toInt ≥ 401 := by have z := g5_ge (a := e_at.toInt) (b := 401) (by rfl) (by decide) c_1; omega
    refine lv_iconst (v := 0) hx hb dX4_isNext_35 (by decide) ?_
    exact W.zret (v := 0) hx hb hr rfl (fun t ht hW => ⟨⟨0, [(a_r, (oc4 a_tk a_rh a_rs a_rc e_ln e_pa e_at e_fp)), (a_tk, (oc8 a_kd a_nm a_pl)), (a_kd, (arI G 401 f_kd))], rfl, Or.inr (⟨rfl, rfl⟩), by rw [ht]; exact hP.sub [0, 1, 2] rfl, hD.sub [0, 1, 2] (by decide) rfl⟩, hS.F ht⟩) hS.2.2 dX4_isNext_36
  ·
    have i_1 : e_at.toInt < 401 := by have z := g5_geN (a := e_at.toInt) (b := 401) (by rfl) (by decide) c_1; omega
    refine lv_aload_n hx hb dX4_isNext_15 rfl (lv_at hl 0 rfl) ?_
    refine va_get (D := G.1) (ci := 4) (v := .ref a_tk) (C := RX4) (T := TX4) (N := 8) hx hb hts inG_X4 hown hK hP 0 rfl rfl 0 (by decide) (hts _ fl_X4_12) (fun _ h9 => h9) rfl dX4_isNext_16 ?_
    refine va_get (D := G.1) (ci := 8) (v := .ref a_kd) (C := RX8) (T := TX8) (N := 3) hx hb hts inG_X8 hown hK hP 1 rfl rfl 0 (by decide) (hts _ fl_X4_96) (fun _ h9 => h9) rfl dX4_isNext_19 ?_
    refine lv_aload_n hx hb dX4_isNext_22 rfl (lv_at hl 0 rfl) ?_
    refine va_get (D := G.1) (ci := 4) (v := .int e_at) (C := RX4) (T := TX4) (N := 8) hx hb hts inG_X4 hown hK hP 0 rfl rfl 6 (by decide) (hts _ fl_X4_42) (fun _ h9 => h9) rfl dX4_isNext_23 ?_
    refine va_iald hx hb hK hP 2 0 rfl rfl (i := e_at) (vp_in_iff.mpr ⟨by omega, by omega⟩) dX4_isNext_26 ?_
    refine lv_iload_n hx hb dX4_isNext_27 rfl (lv_at hl 1 rfl) ?_
    refine lv_icmp_ne (tgt := 35) hx hb dX4_isNext_28 (by decide) (fun c_2 => ?_) (fun c_2 => ?_)
    ·
      have n_2 : gNe ((f_kd e_at.toNatClampNeg).toInt) (p_k.toInt) := by have z := g5_ne (a := (f_kd e_at.toNatClampNeg).toInt) (b := p_k.toInt) (by rfl) (by rfl) c_2; unfold gNe; omega
      refine lv_iconst (v := 0) hx hb dX4_isNext_35 (by decide) ?_
      exact W.zret (v := 0) hx hb hr rfl (fun t ht hW => ⟨⟨0, [(a_r, (oc4 a_tk a_rh a_rs a_rc e_ln e_pa e_at e_fp)), (a_tk, (oc8 a_kd a_nm a_pl)), (a_kd, (arI G 401 f_kd))], rfl, Or.inr (⟨rfl, rfl⟩), by rw [ht]; exact hP.sub [0, 1, 2] rfl, hD.sub [0, 1, 2] (by decide) rfl⟩, hS.F ht⟩) hS.2.2 dX4_isNext_36
    ·
      have i_2 : (f_kd e_at.toNatClampNeg).toInt = p_k.toInt := by have z := g5_neN (a := (f_kd e_at.toNatClampNeg).toInt) (b := p_k.toInt) (by rfl) (by rfl) c_2; omega
      refine lv_iconst (v := 1) hx hb dX4_isNext_31 (by decide) ?_
      refine lv_goto (tgt := 36) hx hb dX4_isNext_32 (by decide) ?_
      exact W.zret (v := 1) hx hb hr rfl (fun t ht hW => ⟨⟨1, [(a_r, (oc4 a_tk a_rh a_rs a_rc e_ln e_pa e_at e_fp)), (a_tk, (oc8 a_kd a_nm a_pl)), (a_kd, (arI G 401 f_kd))], rfl, Or.inl (⟨by omega, Int32.toInt_inj.mp (by omega), rfl, rfl⟩), by rw [ht]; exact hP.sub [0, 1, 2] rfl, hD.sub [0, 1, 2] (by decide) rfl⟩, hS.F ht⟩) hS.2.2 dX4_isNext_36
theorem dgX4_passed_0 : ∀ r ∈ ([(0, (.aload_n 0, 1)), (1, (.getfield 42, 3)), (4, (.aload_n 0, 1)), (5, (.getfield 12, 3)), (8, (.getfield 96, 3)), (11, (.arraylength, 1)), (12, (.if_icmp .ge 23, 3)), (15, (.aload_n 0, 1)), (16, (.getfield 12, 3)), (19, (.getfield 96, 3)), (22, (.aload_n 0, 1)), (23, (.getfield 42, 3)), (26, (.iaload, 1)), (27, (.iload_n 1, 1)), (28, (.if_icmp .ne 7, 3)), (31, (.iconst 1, 1)), (32, (.goto 4, 3)), (35, (.iconst 0, 1)), (36, (.istore_n 2, 1)), (37, (.aload_n 0, 1)), (38, (.dup, 1)), (39, (.getfield 42, 3)), (42, (.iload_n 2, 1)), (43, (.ifCond .eq 7, 3)), (46, (.iconst 1, 1)), (47, (.goto 4, 3)), (50, (.iconst 0, 1)), (51, (.iadd, 1)), (52, (.putfield 42, 3)), (55, (.iload_n 2, 1)), (56, (.ireturn, 1))] : List (Nat × (Instr × Nat))), decode cX4_passed r.1 = .ok r.2 := by decide +kernel
theorem dX4_passed_0 : decode cX4_passed 0 = .ok (.aload_n 0, 1) := dgX4_passed_0 (0, (.aload_n 0, 1)) (List.mem_of_getElem? (i := 0) rfl)
theorem dX4_passed_1 : decode cX4_passed 1 = .ok (.getfield 42, 3) := dgX4_passed_0 (1, (.getfield 42, 3)) (List.mem_of_getElem? (i := 1) rfl)
theorem dX4_passed_4 : decode cX4_passed 4 = .ok (.aload_n 0, 1) := dgX4_passed_0 (4, (.aload_n 0, 1)) (List.mem_of_getElem? (i := 2) rfl)
theorem dX4_passed_5 : decode cX4_passed 5 = .ok (.getfield 12, 3) := dgX4_passed_0 (5, (.getfield 12, 3)) (List.mem_of_getElem? (i := 3) rfl)
theorem dX4_passed_8 : decode cX4_passed 8 = .ok (.getfield 96, 3) := dgX4_passed_0 (8, (.getfield 96, 3)) (List.mem_of_getElem? (i := 4) rfl)
theorem dX4_passed_11 : decode cX4_passed 11 = .ok (.arraylength, 1) := dgX4_passed_0 (11, (.arraylength, 1)) (List.mem_of_getElem? (i := 5) rfl)
theorem dX4_passed_12 : decode cX4_passed 12 = .ok (.if_icmp .ge 23, 3) := dgX4_passed_0 (12, (.if_icmp .ge 23, 3)) (List.mem_of_getElem? (i := 6) rfl)
theorem dX4_passed_15 : decode cX4_passed 15 = .ok (.aload_n 0, 1) := dgX4_passed_0 (15, (.aload_n 0, 1)) (List.mem_of_getElem? (i := 7) rfl)
theorem dX4_passed_16 : decode cX4_passed 16 = .ok (.getfield 12, 3) := dgX4_passed_0 (16, (.getfield 12, 3)) (List.mem_of_getElem? (i := 8) rfl)
theorem dX4_passed_19 : decode cX4_passed 19 = .ok (.getfield 96, 3) := dgX4_passed_0 (19, (.getfield 96, 3)) (List.mem_of_getElem? (i := 9) rfl)
theorem dX4_passed_22 : decode cX4_passed 22 = .ok (.aload_n 0, 1) := dgX4_passed_0 (22, (.aload_n 0, 1)) (List.mem_of_getElem? (i := 10) rfl)
theorem dX4_passed_23 : decode cX4_passed 23 = .ok (.getfield 42, 3) := dgX4_passed_0 (23, (.getfield 42, 3)) (List.mem_of_getElem? (i := 11) rfl)
theorem dX4_passed_26 : decode cX4_passed 26 = .ok (.iaload, 1) := dgX4_passed_0 (26, (.iaload, 1)) (List.mem_of_getElem? (i := 12) rfl)
theorem dX4_passed_27 : decode cX4_passed 27 = .ok (.iload_n 1, 1) := dgX4_passed_0 (27, (.iload_n 1, 1)) (List.mem_of_getElem? (i := 13) rfl)
theorem dX4_passed_28 : decode cX4_passed 28 = .ok (.if_icmp .ne 7, 3) := dgX4_passed_0 (28, (.if_icmp .ne 7, 3)) (List.mem_of_getElem? (i := 14) rfl)
theorem dX4_passed_31 : decode cX4_passed 31 = .ok (.iconst 1, 1) := dgX4_passed_0 (31, (.iconst 1, 1)) (List.mem_of_getElem? (i := 15) rfl)
theorem dX4_passed_32 : decode cX4_passed 32 = .ok (.goto 4, 3) := dgX4_passed_0 (32, (.goto 4, 3)) (List.mem_of_getElem? (i := 16) rfl)
theorem dX4_passed_35 : decode cX4_passed 35 = .ok (.iconst 0, 1) := dgX4_passed_0 (35, (.iconst 0, 1)) (List.mem_of_getElem? (i := 17) rfl)
theorem dX4_passed_36 : decode cX4_passed 36 = .ok (.istore_n 2, 1) := dgX4_passed_0 (36, (.istore_n 2, 1)) (List.mem_of_getElem? (i := 18) rfl)
theorem dX4_passed_37 : decode cX4_passed 37 = .ok (.aload_n 0, 1) := dgX4_passed_0 (37, (.aload_n 0, 1)) (List.mem_of_getElem? (i := 19) rfl)
theorem dX4_passed_38 : decode cX4_passed 38 = .ok (.dup, 1) := dgX4_passed_0 (38, (.dup, 1)) (List.mem_of_getElem? (i := 20) rfl)
theorem dX4_passed_39 : decode cX4_passed 39 = .ok (.getfield 42, 3) := dgX4_passed_0 (39, (.getfield 42, 3)) (List.mem_of_getElem? (i := 21) rfl)
theorem dX4_passed_42 : decode cX4_passed 42 = .ok (.iload_n 2, 1) := dgX4_passed_0 (42, (.iload_n 2, 1)) (List.mem_of_getElem? (i := 22) rfl)
theorem dX4_passed_43 : decode cX4_passed 43 = .ok (.ifCond .eq 7, 3) := dgX4_passed_0 (43, (.ifCond .eq 7, 3)) (List.mem_of_getElem? (i := 23) rfl)
theorem dX4_passed_46 : decode cX4_passed 46 = .ok (.iconst 1, 1) := dgX4_passed_0 (46, (.iconst 1, 1)) (List.mem_of_getElem? (i := 24) rfl)
theorem dX4_passed_47 : decode cX4_passed 47 = .ok (.goto 4, 3) := dgX4_passed_0 (47, (.goto 4, 3)) (List.mem_of_getElem? (i := 25) rfl)
theorem dX4_passed_50 : decode cX4_passed 50 = .ok (.iconst 0, 1) := dgX4_passed_0 (50, (.iconst 0, 1)) (List.mem_of_getElem? (i := 26) rfl)
theorem dX4_passed_51 : decode cX4_passed 51 = .ok (.iadd, 1) := dgX4_passed_0 (51, (.iadd, 1)) (List.mem_of_getElem? (i := 27) rfl)
theorem dX4_passed_52 : decode cX4_passed 52 = .ok (.putfield 42, 3) := dgX4_passed_0 (52, (.putfield 42, 3)) (List.mem_of_getElem? (i := 28) rfl)
theorem dX4_passed_55 : decode cX4_passed 55 = .ok (.iload_n 2, 1) := dgX4_passed_0 (55, (.iload_n 2, 1)) (List.mem_of_getElem? (i := 29) rfl)
theorem dX4_passed_56 : decode cX4_passed 56 = .ok (.ireturn, 1) := dgX4_passed_0 (56, (.ireturn, 1)) (List.mem_of_getElem? (i := 30) rfl)
set_option maxHeartbeats 4000000 in
set_option maxRecDepth 100000 in
theorem r_passed (l : Launch) (G : g5_G) (a_r a_tk a_kd a_rh a_rs a_rc a_nm a_pl : Nat) (sz : Nat) (e_ln : Int32) (e_pa : Int32) (e_at : Int32) (e_fp : Int32) (p_k : Int32) (f_kd : Nat → Int32) (h_e_ln : 0 ≤ e_ln.toInt ∧ e_ln.toInt ≤ 400) (h_e_pa : 0 ≤ e_pa.toInt ∧ e_pa.toInt ≤ 50) (h_e_at : 0 ≤ e_at.toInt ∧ e_at.toInt ≤ 401) : Met l yX4_passed (wsG yX4_passed cX4_passed 3 (some .boolean)) ({ frames := 0, cells := 0, slots := 0, locals := 0 }) (va_Pc [.ref a_r, .int p_k] (g5_P G [(a_r, (oc4 a_tk a_rh a_rs a_rc e_ln e_pa e_at e_fp)), (a_tk, (oc8 a_kd a_nm a_pl)), (a_kd, (arI G 401 f_kd))] sz)) (va_Qi (fun (r : Int32) (u : va_W) => (∃ (o_r : Int32) (o_at : Int32), (0 ≤ o_r.toInt ∧ o_r.toInt ≤ 1) ∧ (0 ≤ o_at.toInt ∧ o_at.toInt ≤ 401) ∧ (r = o_r) ∧ (u = [(a_r, (oc4 a_tk a_rh a_rs a_rc e_ln e_pa o_at e_fp)), (a_tk, (oc8 a_kd a_nm a_pl)), (a_kd, (arI G 401 f_kd))]))) (g5_B G (va_A [(a_r, (oc4 a_tk a_rh a_rs a_rc e_ln e_pa e_at e_fp)), (a_tk, (oc8 a_kd a_nm a_pl)), (a_kd, (arI G 401 f_kd))] sz)) (va_A [(a_r, (oc4 a_tk a_rh a_rs a_rc e_ln e_pa e_at e_fp)), (a_tk, (oc8 a_kd a_nm a_pl)), (a_kd, (arI G 401 f_kd))] sz)) 0 0 (va_A [(a_r, (oc4 a_tk a_rh a_rs a_rc e_ln e_pa e_at e_fp)), (a_tk, (oc8 a_kd a_nm a_pl)), (a_kd, (arI G 401 f_kd))] sz) := by
  refine Met.ofW (cc := cX4_passed) (maxL := 3) (ret := (some .boolean)) (by decide) rfl ?_
  intro p e s m args below meth c s₁ B hml hv
  obtain ⟨rfl, hsz, hP, hK, hD0, hN, hT⟩ := hv
  have hx := B.exec
  have hb := B.bytes
  have hr := B.returns
  have hts : ∀ w ∈ tblG, w.before _ s = true := fun w h => atoms_spec (ws := (wsG yX4_passed cX4_passed 3 (some .boolean))) B.pre w (List.mem_cons_of_mem _ h)
  have hown : s.vm.findClass RX4 = some m.cls := findClass_of_methodNamed B.named
  have hlocks := B.notSynchronized
  subst hsz
  have hD := hD0.self (sz := s.heap.size)
  generalize hAe : va_A [(a_r, (oc4 a_tk a_rh a_rs a_rc e_ln e_pa e_at e_fp)), (a_tk, (oc8 a_kd a_nm a_pl)), (a_kd, (arI G 401 f_kd))] s.heap.size = A at hD hT ⊢
  have hA : ∀ q : Nat, s.heap.size ≤ q → A q := fun q h => by rw [← hAe]; exact Or.inr h
  have hS : va_S A s.heap s.heap [] := va_S.rf
  have hP : va_P G.1 vwCl [(a_r, (oc4 a_tk a_rh a_rs a_rc e_ln e_pa e_at e_fp)), (a_tk, (oc8 a_kd a_nm a_pl)), (a_kd, (arI G 401 f_kd))] s.heap := hP
  have hl := lv_entry ([.ref a_r, .int p_k]) (n := 3) (Nat.le_of_ble_eq_true rfl)
  rw [lg_entry_eq]
  generalize (lg_sl ([.ref a_r, .int p_k]) ++ List.replicate (3 - (lg_sl ([.ref a_r, .int p_k])).length) Slot.unset).toArray = ls at hl ⊢
  have hl : lv_has ls 3 [(0, .ref a_r), (1, .int p_k)] := hl
  refine lv_aload_n hx hb dX4_passed_0 rfl (lv_at hl 0 rfl) ?_
  refine va_get (D := G.1) (ci := 4) (v := .int e_at) (C := RX4) (T := TX4) (N := 8) hx hb hts inG_X4 hown hK hP 0 rfl rfl 6 (by decide) (hts _ fl_X4_42) (fun _ h9 => h9) rfl dX4_passed_1 ?_
  refine lv_aload_n hx hb dX4_passed_4 rfl (lv_at hl 0 rfl) ?_
  refine va_get (D := G.1) (ci := 4) (v := .ref a_tk) (C := RX4) (T := TX4) (N := 8) hx hb hts inG_X4 hown hK hP 0 rfl rfl 0 (by decide) (hts _ fl_X4_12) (fun _ h9 => h9) rfl dX4_passed_5 ?_
  refine va_get (D := G.1) (ci := 8) (v := .ref a_kd) (C := RX8) (T := TX8) (N := 3) hx hb hts inG_X8 hown hK hP 1 rfl rfl 0 (by decide) (hts _ fl_X4_96) (fun _ h9 => h9) rfl dX4_passed_8 ?_
  refine va_alen hx hb hK hP 2 0 rfl rfl (v := 401) (by show Int32.ofNat 401 = 401; decide) dX4_passed_11 ?_
  refine lv_icmp_ge (tgt := 35) hx hb dX4_passed_12 (by decide) (fun c_1 => ?_) (fun c_1 => ?_)
  ·
    have i_1 : e_at.toInt ≥ 401 := by have z := g5_ge (a := e_at.toInt) (b := 401) (by rfl) (by decide) c_1; omega
    refine lv_iconst (v := 0) hx hb dX4_passed_35 (by decide) ?_
    refine lv_istore_n (lv' := [(2, .int 0), (0, .ref a_r), (1, .int p_k)]) hx hb dX4_passed_36 rfl hl (by decide) rfl (fun ls hl => ?_)
    refine lv_aload_n hx hb dX4_passed_37 rfl (lv_at hl 1 rfl) ?_
    refine lv_dup hx hb dX4_passed_38 rfl ?_
    refine va_get (D := G.1) (ci := 4) (v := .int e_at) (C := RX4) (T := TX4) (N := 8) hx hb hts inG_X4 hown hK hP 0 rfl rfl 6 (by decide) (hts _ fl_X4_42) (fun _ h9 => h9) rfl dX4_passed_39 ?_
    refine lv_iload_n hx hb dX4_passed_42 rfl (lv_at hl 0 rfl) ?_
    refine lv_if_eq (tgt := 50) hx hb dX4_passed_43 (by decide) (fun c_2 => ?_) (fun c_2 => ?_)
    ·
      refine lv_iconst (v := 0) hx hb dX4_passed_50 (by decide) ?_
      refine lv_iadd hx hb dX4_passed_51 ?_
      refine g5_ti (v := e_at) (by simp) ?_
      refine va_put (D := G.1) (ci := 4) (v := .int e_at) (ty := .int) (C := RX4) (T := TX4) (N := 8) hx hb hts inG_X4 tyX4 tyX4_ok nmX4 hown hK hP hD hS 0 rfl rfl 6 (by decide) (hts _ fl_X4_42) (fun _ h9 => h9) rfl (by decide +kernel) rfl rfl (Nat.le_of_ble_eq_true rfl) dX4_passed_52 (fun H locs hP hD hS => ?_)
      refine g5_rs [(a_r, (oc4 a_tk a_rh a_rs a_rc e_ln e_pa e_at e_fp)), (a_tk, (oc8 a_kd a_nm a_pl)), (a_kd, (arI G 401 f_kd))] hP hD (fun hP hD => ?_)
      refine lv_iload_n hx hb dX4_passed_55 rfl (lv_at hl 0 rfl) ?_
      exact W.zret (v := 0) hx hb hr rfl (fun t ht hW => ⟨⟨0, [(a_r, (oc4 a_tk a_rh a_rs a_rc e_ln e_pa e_at e_fp)), (a_tk, (oc8 a_kd a_nm a_pl)), (a_kd, (arI G 401 f_kd))], rfl, ⟨0, e_at, ⟨by have zc_o_r : (0 : Int32).toInt = 0 := (by decide); omega, by have zc_o_r : (0 : Int32).toInt = 0 := (by decide); omega⟩, h_e_at, rfl, rfl⟩, by rw [ht]; exact hP.sub [0, 1, 2] rfl, hD.sub [0, 1, 2] (by decide) rfl⟩, hS.F ht⟩) hS.2.2 dX4_passed_56
    ·
      exact absurd c_2 (by decide)
  ·
    have i_1 : e_at.toInt < 401 := by have z := g5_geN (a := e_at.toInt) (b := 401) (by rfl) (by decide) c_1; omega
    refine lv_aload_n hx hb dX4_passed_15 rfl (lv_at hl 0 rfl) ?_
    refine va_get (D := G.1) (ci := 4) (v := .ref a_tk) (C := RX4) (T := TX4) (N := 8) hx hb hts inG_X4 hown hK hP 0 rfl rfl 0 (by decide) (hts _ fl_X4_12) (fun _ h9 => h9) rfl dX4_passed_16 ?_
    refine va_get (D := G.1) (ci := 8) (v := .ref a_kd) (C := RX8) (T := TX8) (N := 3) hx hb hts inG_X8 hown hK hP 1 rfl rfl 0 (by decide) (hts _ fl_X4_96) (fun _ h9 => h9) rfl dX4_passed_19 ?_
    refine lv_aload_n hx hb dX4_passed_22 rfl (lv_at hl 0 rfl) ?_
    refine va_get (D := G.1) (ci := 4) (v := .int e_at) (C := RX4) (T := TX4) (N := 8) hx hb hts inG_X4 hown hK hP 0 rfl rfl 6 (by decide) (hts _ fl_X4_42) (fun _ h9 => h9) rfl dX4_passed_23 ?_
    refine va_iald hx hb hK hP 2 0 rfl rfl (i := e_at) (vp_in_iff.mpr ⟨by omega, by omega⟩) dX4_passed_26 ?_
    refine lv_iload_n hx hb dX4_passed_27 rfl (lv_at hl 1 rfl) ?_
    refine lv_icmp_ne (tgt := 35) hx hb dX4_passed_28 (by decide) (fun c_3 => ?_) (fun c_3 => ?_)
    ·
      have n_3 : gNe ((f_kd e_at.toNatClampNeg).toInt) (p_k.toInt) := by have z := g5_ne (a := (f_kd e_at.toNatClampNeg).toInt) (b := p_k.toInt) (by rfl) (by rfl) c_3; unfold gNe; omega
      refine lv_iconst (v := 0) hx hb dX4_passed_35 (by decide) ?_
      refine lv_istore_n (lv' := [(2, .int 0), (0, .ref a_r), (1, .int p_k)]) hx hb dX4_passed_36 rfl hl (by decide) rfl (fun ls hl => ?_)
      refine lv_aload_n hx hb dX4_passed_37 rfl (lv_at hl 1 rfl) ?_
      refine lv_dup hx hb dX4_passed_38 rfl ?_
      refine va_get (D := G.1) (ci := 4) (v := .int e_at) (C := RX4) (T := TX4) (N := 8) hx hb hts inG_X4 hown hK hP 0 rfl rfl 6 (by decide) (hts _ fl_X4_42) (fun _ h9 => h9) rfl dX4_passed_39 ?_
      refine lv_iload_n hx hb dX4_passed_42 rfl (lv_at hl 0 rfl) ?_
      refine lv_if_eq (tgt := 50) hx hb dX4_passed_43 (by decide) (fun c_4 => ?_) (fun c_4 => ?_)
      ·
        refine lv_iconst (v := 0) hx hb dX4_passed_50 (by decide) ?_
        refine lv_iadd hx hb dX4_passed_51 ?_
        refine g5_ti (v := e_at) (by simp) ?_
        refine va_put (D := G.1) (ci := 4) (v := .int e_at) (ty := .int) (C := RX4) (T := TX4) (N := 8) hx hb hts inG_X4 tyX4 tyX4_ok nmX4 hown hK hP hD hS 0 rfl rfl 6 (by decide) (hts _ fl_X4_42) (fun _ h9 => h9) rfl (by decide +kernel) rfl rfl (Nat.le_of_ble_eq_true rfl) dX4_passed_52 (fun H locs hP hD hS => ?_)
        refine g5_rs [(a_r, (oc4 a_tk a_rh a_rs a_rc e_ln e_pa e_at e_fp)), (a_tk, (oc8 a_kd a_nm a_pl)), (a_kd, (arI G 401 f_kd))] hP hD (fun hP hD => ?_)
        refine lv_iload_n hx hb dX4_passed_55 rfl (lv_at hl 0 rfl) ?_
        exact W.zret (v := 0) hx hb hr rfl (fun t ht hW => ⟨⟨0, [(a_r, (oc4 a_tk a_rh a_rs a_rc e_ln e_pa e_at e_fp)), (a_tk, (oc8 a_kd a_nm a_pl)), (a_kd, (arI G 401 f_kd))], rfl, ⟨0, e_at, ⟨by have zc_o_r : (0 : Int32).toInt = 0 := (by decide); omega, by have zc_o_r : (0 : Int32).toInt = 0 := (by decide); omega⟩, h_e_at, rfl, rfl⟩, by rw [ht]; exact hP.sub [0, 1, 2] rfl, hD.sub [0, 1, 2] (by decide) rfl⟩, hS.F ht⟩) hS.2.2 dX4_passed_56
      ·
        exact absurd c_4 (by decide)
    ·
      have i_3 : (f_kd e_at.toNatClampNeg).toInt = p_k.toInt := by have z := g5_neN (a := (f_kd e_at.toNatClampNeg).toInt) (b := p_k.toInt) (by rfl) (by rfl) c_3; omega
      refine lv_iconst (v := 1) hx hb dX4_passed_31 (by decide) ?_
      refine lv_goto (tgt := 36) hx hb dX4_passed_32 (by decide) ?_
      refine lv_istore_n (lv' := [(2, .int 1), (0, .ref a_r), (1, .int p_k)]) hx hb dX4_passed_36 rfl hl (by decide) rfl (fun ls hl => ?_)
      refine lv_aload_n hx hb dX4_passed_37 rfl (lv_at hl 1 rfl) ?_
      refine lv_dup hx hb dX4_passed_38 rfl ?_
      refine va_get (D := G.1) (ci := 4) (v := .int e_at) (C := RX4) (T := TX4) (N := 8) hx hb hts inG_X4 hown hK hP 0 rfl rfl 6 (by decide) (hts _ fl_X4_42) (fun _ h9 => h9) rfl dX4_passed_39 ?_
      refine lv_iload_n hx hb dX4_passed_42 rfl (lv_at hl 0 rfl) ?_
      refine lv_if_eq (tgt := 50) hx hb dX4_passed_43 (by decide) (fun c_5 => ?_) (fun c_5 => ?_)
      ·
        exact absurd c_5 (by decide)
      ·
        refine lv_iconst (v := 1) hx hb dX4_passed_46 (by decide) ?_
        refine lv_goto (tgt := 51) hx hb dX4_passed_47 (by decide) ?_
        refine lv_iadd hx hb dX4_passed_51 ?_
        have t_6 : (e_at + 1).toInt = e_at.toInt + 1 := g5_iadd (a := e_at.toInt) (b := 1) (by rfl) (by decide) (by omega) (by omega)
        refine va_put (D := G.1) (ci := 4) (v := .int (e_at + 1)) (ty := .int) (C := RX4) (T := TX4) (N := 8) hx hb hts inG_X4 tyX4 tyX4_ok nmX4 hown hK hP hD hS 0 rfl rfl 6 (by decide) (hts _ fl_X4_42) (fun _ h9 => h9) rfl (by decide +kernel) rfl rfl (Nat.le_of_ble_eq_true rfl) dX4_passed_52 (fun H locs hP hD hS => ?_)
        refine g5_rs [(a_r, (oc4 a_tk a_rh a_rs a_rc e_ln e_pa (e_at + 1) e_fp)), (a_tk, (oc8 a_kd a_nm a_pl)), (a_kd, (arI G 401 f_kd))] hP hD (fun hP hD => ?_)
        refine lv_iload_n hx hb dX4_passed_55 rfl (lv_at hl 0 rfl) ?_
        exact W.zret (v := 1) hx hb hr rfl (fun t ht hW => ⟨⟨1, [(a_r, (oc4 a_tk a_rh a_rs a_rc e_ln e_pa (e_at + 1) e_fp)), (a_tk, (oc8 a_kd a_nm a_pl)), (a_kd, (arI G 401 f_kd))], rfl, ⟨1, (e_at + 1), ⟨by have zc_o_r : (1 : Int32).toInt = 1 := (by decide); omega, by have zc_o_r : (1 : Int32).toInt = 1 := (by decide); omega⟩, ⟨by omega, by omega⟩, rfl, rfl⟩, by rw [ht]; exact hP.sub [0, 1, 2] rfl, hD.sub [0, 1, 2] (by decide) rfl⟩, hS.F ht⟩) hS.2.2 dX4_passed_56
theorem dgX4_jumpHere_0 : ∀ r ∈ ([(0, (.iload_n 1, 1)), (1, (.ifCond .lt 25, 3)), (4, (.iload_n 1, 1)), (5, (.aload_n 0, 1)), (6, (.getfield 25, 3)), (9, (.arraylength, 1)), (10, (.if_icmp .ge 16, 3)), (13, (.aload_n 0, 1)), (14, (.getfield 25, 3)), (17, (.iload_n 1, 1)), (18, (.dup2, 1)), (19, (.iaload, 1)), (20, (.aload_n 0, 1)), (21, (.getfield 36, 3)), (24, (.ior, 1)), (25, (.iastore, 1)), (26, (.return_, 1))] : List (Nat × (Instr × Nat))), decode cX4_jumpHere r.1 = .ok r.2 := by decide +kernel
theorem dX4_jumpHere_0 : decode cX4_jumpHere 0 = .ok (.iload_n 1, 1) := dgX4_jumpHere_0 (0, (.iload_n 1, 1)) (List.mem_of_getElem? (i := 0) rfl)
theorem dX4_jumpHere_1 : decode cX4_jumpHere 1 = .ok (.ifCond .lt 25, 3) := dgX4_jumpHere_0 (1, (.ifCond .lt 25, 3)) (List.mem_of_getElem? (i := 1) rfl)
theorem dX4_jumpHere_4 : decode cX4_jumpHere 4 = .ok (.iload_n 1, 1) := dgX4_jumpHere_0 (4, (.iload_n 1, 1)) (List.mem_of_getElem? (i := 2) rfl)
theorem dX4_jumpHere_5 : decode cX4_jumpHere 5 = .ok (.aload_n 0, 1) := dgX4_jumpHere_0 (5, (.aload_n 0, 1)) (List.mem_of_getElem? (i := 3) rfl)
theorem dX4_jumpHere_6 : decode cX4_jumpHere 6 = .ok (.getfield 25, 3) := dgX4_jumpHere_0 (6, (.getfield 25, 3)) (List.mem_of_getElem? (i := 4) rfl)
theorem dX4_jumpHere_9 : decode cX4_jumpHere 9 = .ok (.arraylength, 1) := dgX4_jumpHere_0 (9, (.arraylength, 1)) (List.mem_of_getElem? (i := 5) rfl)
theorem dX4_jumpHere_10 : decode cX4_jumpHere 10 = .ok (.if_icmp .ge 16, 3) := dgX4_jumpHere_0 (10, (.if_icmp .ge 16, 3)) (List.mem_of_getElem? (i := 6) rfl)
theorem dX4_jumpHere_13 : decode cX4_jumpHere 13 = .ok (.aload_n 0, 1) := dgX4_jumpHere_0 (13, (.aload_n 0, 1)) (List.mem_of_getElem? (i := 7) rfl)
theorem dX4_jumpHere_14 : decode cX4_jumpHere 14 = .ok (.getfield 25, 3) := dgX4_jumpHere_0 (14, (.getfield 25, 3)) (List.mem_of_getElem? (i := 8) rfl)
theorem dX4_jumpHere_17 : decode cX4_jumpHere 17 = .ok (.iload_n 1, 1) := dgX4_jumpHere_0 (17, (.iload_n 1, 1)) (List.mem_of_getElem? (i := 9) rfl)
theorem dX4_jumpHere_18 : decode cX4_jumpHere 18 = .ok (.dup2, 1) := dgX4_jumpHere_0 (18, (.dup2, 1)) (List.mem_of_getElem? (i := 10) rfl)
theorem dX4_jumpHere_19 : decode cX4_jumpHere 19 = .ok (.iaload, 1) := dgX4_jumpHere_0 (19, (.iaload, 1)) (List.mem_of_getElem? (i := 11) rfl)
theorem dX4_jumpHere_20 : decode cX4_jumpHere 20 = .ok (.aload_n 0, 1) := dgX4_jumpHere_0 (20, (.aload_n 0, 1)) (List.mem_of_getElem? (i := 12) rfl)
theorem dX4_jumpHere_21 : decode cX4_jumpHere 21 = .ok (.getfield 36, 3) := dgX4_jumpHere_0 (21, (.getfield 36, 3)) (List.mem_of_getElem? (i := 13) rfl)
theorem dX4_jumpHere_24 : decode cX4_jumpHere 24 = .ok (.ior, 1) := dgX4_jumpHere_0 (24, (.ior, 1)) (List.mem_of_getElem? (i := 14) rfl)
theorem dX4_jumpHere_25 : decode cX4_jumpHere 25 = .ok (.iastore, 1) := dgX4_jumpHere_0 (25, (.iastore, 1)) (List.mem_of_getElem? (i := 15) rfl)
theorem dX4_jumpHere_26 : decode cX4_jumpHere 26 = .ok (.return_, 1) := dgX4_jumpHere_0 (26, (.return_, 1)) (List.mem_of_getElem? (i := 16) rfl)
theorem fl_X4_25 : Cond.fieldLink RX4 25 "LateGlass$LawReader" "code" "[I" ∈ tblG := tg 421 (by decide +kernel) (by decide +kernel)
theorem fl_X4_36 : Cond.fieldLink RX4 36 "LateGlass$LawReader" "length" "I" ∈ tblG := tg 422 (by decide +kernel) (by decide +kernel)
set_option maxHeartbeats 4000000 in
set_option maxRecDepth 100000 in
theorem r_jump (l : Launch) (G : g5_G) (a_r a_rc a_tk a_rh a_rs : Nat) (sz : Nat) (e_ln : Int32) (e_pa : Int32) (e_at : Int32) (e_fp : Int32) (p_j : Int32) (f_rc : Nat → Int32) (h_e_ln : 0 ≤ e_ln.toInt ∧ e_ln.toInt ≤ 400) (h_e_pa : 0 ≤ e_pa.toInt ∧ e_pa.toInt ≤ 50) (h_e_at : 0 ≤ e_at.toInt ∧ e_at.toInt ≤ 401) (e_cd : CDI f_rc e_ln.toInt) (e_jk : JOK f_rc e_ln.toInt p_j) : Met l yX4_jumpHere (wsG yX4_jumpHere cX4_jumpHere 2 none) ({ frames := 0, cells := 0, slots := 0, locals := 0 }) (va_Pc [.ref a_r, .int p_j] (g5_P G [(a_r, (oc4 a_tk a_rh a_rs a_rc e_ln e_pa e_at e_fp)), (a_rc, (arI G 400 f_rc))] sz)) (va_Qv (fun (u : va_W) => (∃ (o_rc : Nat → Int32), (CDI o_rc e_ln.toInt) ∧ (OPK f_rc o_rc e_ln.toInt) ∧ (u = [(a_r, (oc4 a_tk a_rh a_rs a_rc e_ln e_pa e_at e_fp)), (a_rc, (arI G 400 o_rc))]))) (g5_B G (va_A [(a_r, (oc4 a_tk a_rh a_rs a_rc e_ln e_pa e_at e_fp)), (a_rc, (arI G 400 f_rc))] sz)) (va_A [(a_r, (oc4 a_tk a_rh a_rs a_rc e_ln e_pa e_at e_fp)), (a_rc, (arI G 400 f_rc))] sz)) 0 0 (va_A [(a_r, (oc4 a_tk a_rh a_rs a_rc e_ln e_pa e_at e_fp)), (a_rc, (arI G 400 f_rc))] sz) := by
  refine Met.ofW (cc := cX4_jumpHere) (maxL := 2) (ret := none) (by decide) rfl ?_
  intro p e s m args below meth c s₁ B hml hv
  obtain ⟨rfl, hsz, hP, hK, hD0, hN, hT⟩ := hv
  have hx := B.exec
  have hb := B.bytes
  have hr := B.returns
  have hts : ∀ w ∈ tblG, w.before _ s = true := fun w h => atoms_spec (ws := (wsG yX4_jumpHere cX4_jumpHere 2 none)) B.pre w (List.mem_cons_of_mem _ h)
  have hown : s.vm.findClass RX4 = some m.cls := findClass_of_methodNamed B.named
  have hlocks := B.notSynchronized
  subst hsz
  have hD := hD0.self (sz := s.heap.size)
  generalize hAe : va_A [(a_r, (oc4 a_tk a_rh a_rs a_rc e_ln e_pa e_at e_fp)), (a_rc, (arI G 400 f_rc))] s.heap.size = A at hD hT ⊢
  have hA : ∀ q : Nat, s.heap.size ≤ q → A q := fun q h => by rw [← hAe]; exact Or.inr h
  have hS : va_S A s.heap s.heap [] := va_S.rf
  have hP : va_P G.1 vwCl [(a_r, (oc4 a_tk a_rh a_rs a_rc e_ln e_pa e_at e_fp)), (a_rc, (arI G 400 f_rc))] s.heap := hP
  have hl := lv_entry ([.ref a_r, .int p_j]) (n := 2) (Nat.le_of_ble_eq_true rfl)
  rw [lg_entry_eq]
  generalize (lg_sl ([.ref a_r, .int p_j]) ++ List.replicate (2 - (lg_sl ([.ref a_r, .int p_j])).length) Slot.unset).toArray = ls at hl ⊢
  have hl : lv_has ls 2 [(0, .ref a_r), (1, .int p_j)] := hl
  refine lv_iload_n hx hb dX4_jumpHere_0 rfl (lv_at hl 1 rfl) ?_
  refine lv_if_lt (tgt := 26) hx hb dX4_jumpHere_1 (by decide) (fun c_1 => ?_) (fun c_1 => ?_)
  ·
    have i_1 : p_j.toInt < 0 := by have z := g5_lt (a := p_j.toInt) (b := 0) (by rfl) (by decide) c_1; omega
    exact W.vret hx hb hr (fun t ht hW => ⟨⟨[(a_r, (oc4 a_tk a_rh a_rs a_rc e_ln e_pa e_at e_fp)), (a_rc, (arI G 400 f_rc))], rfl, ⟨f_rc, e_cd, opk_refl, rfl⟩, by rw [ht]; exact hP.sub [0, 1] rfl, hD.sub [0, 1] (by decide) rfl⟩, hS.F ht⟩) hS.2.2 dX4_jumpHere_26
  ·
    have i_1 : p_j.toInt ≥ 0 := by have z := g5_ltN (a := p_j.toInt) (b := 0) (by rfl) (by decide) c_1; omega
    refine lv_iload_n hx hb dX4_jumpHere_4 rfl (lv_at hl 1 rfl) ?_
    refine lv_aload_n hx hb dX4_jumpHere_5 rfl (lv_at hl 0 rfl) ?_
    refine va_get (D := G.1) (ci := 4) (v := .ref a_rc) (C := RX4) (T := TX4) (N := 8) hx hb hts inG_X4 hown hK hP 0 rfl rfl 3 (by decide) (hts _ fl_X4_25) (fun _ h9 => h9) rfl dX4_jumpHere_6 ?_
    refine va_alen hx hb hK hP 1 0 rfl rfl (v := 400) (by show Int32.ofNat 400 = 400; decide) dX4_jumpHere_9 ?_
    refine lv_icmp_ge (tgt := 26) hx hb dX4_jumpHere_10 (by decide) (fun c_2 => ?_) (fun c_2 => ?_)
    ·
      have i_2 : p_j.toInt ≥ 400 := by have z := g5_ge (a := p_j.toInt) (b := 400) (by rfl) (by decide) c_2; omega
      exact W.vret hx hb hr (fun t ht hW => ⟨⟨[(a_r, (oc4 a_tk a_rh a_rs a_rc e_ln e_pa e_at e_fp)), (a_rc, (arI G 400 f_rc))], rfl, ⟨f_rc, e_cd, opk_refl, rfl⟩, by rw [ht]; exact hP.sub [0, 1] rfl, hD.sub [0, 1] (by decide) rfl⟩, hS.F ht⟩) hS.2.2 dX4_jumpHere_26
    ·
      have i_2 : p_j.toInt < 400 := by have z := g5_geN (a := p_j.toInt) (b := 400) (by rfl) (by decide) c_2; omega
      refine lv_aload_n hx hb dX4_jumpHere_13 rfl (lv_at hl 0 rfl) ?_
      refine va_get (D := G.1) (ci := 4) (v := .ref a_rc) (C := RX4) (T := TX4) (N := 8) hx hb hts inG_X4 hown hK hP 0 rfl rfl 3 (by decide) (hts _ fl_X4_25) (fun _ h9 => h9) rfl dX4_jumpHere_14 ?_
      refine lv_iload_n hx hb dX4_jumpHere_17 rfl (lv_at hl 1 rfl) ?_
      refine lv_dup2_11 hx hb dX4_jumpHere_18 rfl rfl ?_
      refine va_iald hx hb hK hP 1 0 rfl rfl (i := p_j) (vp_in_iff.mpr ⟨by omega, by omega⟩) dX4_jumpHere_19 ?_
      refine lv_aload_n hx hb dX4_jumpHere_20 rfl (lv_at hl 0 rfl) ?_
      refine va_get (D := G.1) (ci := 4) (v := .int e_ln) (C := RX4) (T := TX4) (N := 8) hx hb hts inG_X4 hown hK hP 0 rfl rfl 4 (by decide) (hts _ fl_X4_36) (fun _ h9 => h9) rfl dX4_jumpHere_21 ?_
      refine lv_ior hx hb dX4_jumpHere_24 ?_
      refine va_iast hx hb hK hP hD hS 1 0 rfl rfl (i := p_j) (x := ((f_rc p_j.toNatClampNeg) ||| e_ln)) (vp_in_iff.mpr ⟨by omega, by omega⟩) dX4_jumpHere_25 (fun H locs hP hD hS => ?_)
      refine g5_rs [(a_r, (oc4 a_tk a_rh a_rs a_rc e_ln e_pa e_at e_fp)), (a_rc, (arI G 400 (upd f_rc p_j.toNatClampNeg ((f_rc p_j.toNatClampNeg) ||| e_ln))))] hP hD (fun hP hD => ?_)
      exact W.vret hx hb hr (fun t ht hW => ⟨⟨[(a_r, (oc4 a_tk a_rh a_rs a_rc e_ln e_pa e_at e_fp)), (a_rc, (arI G 400 (upd f_rc p_j.toNatClampNeg ((f_rc p_j.toNatClampNeg) ||| e_ln))))], rfl, ⟨(upd f_rc p_j.toNatClampNeg ((f_rc p_j.toNatClampNeg) ||| e_ln)), cdi_jump e_cd e_jk (by omega) (by omega) (by omega), opk_jump (by omega) (by omega), rfl⟩, by rw [ht]; exact hP.sub [0, 1] rfl, hD.sub [0, 1] (by decide) rfl⟩, hS.F ht⟩) hS.2.2 dX4_jumpHere_26
theorem dgX4_emit_0 : ∀ r ∈ ([(0, (.aload_n 0, 1)), (1, (.getfield 36, 3)), (4, (.aload_n 0, 1)), (5, (.getfield 25, 3)), (8, (.arraylength, 1)), (9, (.if_icmp .lt 5, 3)), (12, (.iconst (-1), 1)), (13, (.ireturn, 1)), (14, (.aload_n 0, 1)), (15, (.getfield 25, 3)), (18, (.aload_n 0, 1)), (19, (.getfield 36, 3)), (22, (.iload_n 1, 1)), (23, (.bipush 12, 2)), (25, (.ishl, 1)), (26, (.iload_n 2, 1)), (27, (.ior, 1)), (28, (.iastore, 1)), (29, (.aload_n 0, 1)), (30, (.dup, 1)), (31, (.getfield 36, 3)), (34, (.iconst 1, 1)), (35, (.iadd, 1)), (36, (.putfield 36, 3)), (39, (.aload_n 0, 1)), (40, (.getfield 36, 3)), (43, (.iconst 1, 1)), (44, (.isub, 1)), (45, (.ireturn, 1))] : List (Nat × (Instr × Nat))), decode cX4_emit r.1 = .ok r.2 := by decide +kernel
theorem dX4_emit_0 : decode cX4_emit 0 = .ok (.aload_n 0, 1) := dgX4_emit_0 (0, (.aload_n 0, 1)) (List.mem_of_getElem? (i := 0) rfl)
theorem dX4_emit_1 : decode cX4_emit 1 = .ok (.getfield 36, 3) := dgX4_emit_0 (1, (.getfield 36, 3)) (List.mem_of_getElem? (i := 1) rfl)
theorem dX4_emit_4 : decode cX4_emit 4 = .ok (.aload_n 0, 1) := dgX4_emit_0 (4, (.aload_n 0, 1)) (List.mem_of_getElem? (i := 2) rfl)
theorem dX4_emit_5 : decode cX4_emit 5 = .ok (.getfield 25, 3) := dgX4_emit_0 (5, (.getfield 25, 3)) (List.mem_of_getElem? (i := 3) rfl)
theorem dX4_emit_8 : decode cX4_emit 8 = .ok (.arraylength, 1) := dgX4_emit_0 (8, (.arraylength, 1)) (List.mem_of_getElem? (i := 4) rfl)
theorem dX4_emit_9 : decode cX4_emit 9 = .ok (.if_icmp .lt 5, 3) := dgX4_emit_0 (9, (.if_icmp .lt 5, 3)) (List.mem_of_getElem? (i := 5) rfl)
theorem dX4_emit_12 : decode cX4_emit 12 = .ok (.iconst (-1), 1) := dgX4_emit_0 (12, (.iconst (-1), 1)) (List.mem_of_getElem? (i := 6) rfl)
theorem dX4_emit_13 : decode cX4_emit 13 = .ok (.ireturn, 1) := dgX4_emit_0 (13, (.ireturn, 1)) (List.mem_of_getElem? (i := 7) rfl)
theorem dX4_emit_14 : decode cX4_emit 14 = .ok (.aload_n 0, 1) := dgX4_emit_0 (14, (.aload_n 0, 1)) (List.mem_of_getElem? (i := 8) rfl)
theorem dX4_emit_15 : decode cX4_emit 15 = .ok (.getfield 25, 3) := dgX4_emit_0 (15, (.getfield 25, 3)) (List.mem_of_getElem? (i := 9) rfl)
theorem dX4_emit_18 : decode cX4_emit 18 = .ok (.aload_n 0, 1) := dgX4_emit_0 (18, (.aload_n 0, 1)) (List.mem_of_getElem? (i := 10) rfl)
theorem dX4_emit_19 : decode cX4_emit 19 = .ok (.getfield 36, 3) := dgX4_emit_0 (19, (.getfield 36, 3)) (List.mem_of_getElem? (i := 11) rfl)
theorem dX4_emit_22 : decode cX4_emit 22 = .ok (.iload_n 1, 1) := dgX4_emit_0 (22, (.iload_n 1, 1)) (List.mem_of_getElem? (i := 12) rfl)
theorem dX4_emit_23 : decode cX4_emit 23 = .ok (.bipush 12, 2) := dgX4_emit_0 (23, (.bipush 12, 2)) (List.mem_of_getElem? (i := 13) rfl)
theorem dX4_emit_25 : decode cX4_emit 25 = .ok (.ishl, 1) := dgX4_emit_0 (25, (.ishl, 1)) (List.mem_of_getElem? (i := 14) rfl)
theorem dX4_emit_26 : decode cX4_emit 26 = .ok (.iload_n 2, 1) := dgX4_emit_0 (26, (.iload_n 2, 1)) (List.mem_of_getElem? (i := 15) rfl)
theorem dX4_emit_27 : decode cX4_emit 27 = .ok (.ior, 1) := dgX4_emit_0 (27, (.ior, 1)) (List.mem_of_getElem? (i := 16) rfl)
theorem dX4_emit_28 : decode cX4_emit 28 = .ok (.iastore, 1) := dgX4_emit_0 (28, (.iastore, 1)) (List.mem_of_getElem? (i := 17) rfl)
theorem dX4_emit_29 : decode cX4_emit 29 = .ok (.aload_n 0, 1) := dgX4_emit_0 (29, (.aload_n 0, 1)) (List.mem_of_getElem? (i := 18) rfl)
theorem dX4_emit_30 : decode cX4_emit 30 = .ok (.dup, 1) := dgX4_emit_0 (30, (.dup, 1)) (List.mem_of_getElem? (i := 19) rfl)
theorem dX4_emit_31 : decode cX4_emit 31 = .ok (.getfield 36, 3) := dgX4_emit_0 (31, (.getfield 36, 3)) (List.mem_of_getElem? (i := 20) rfl)
theorem dX4_emit_34 : decode cX4_emit 34 = .ok (.iconst 1, 1) := dgX4_emit_0 (34, (.iconst 1, 1)) (List.mem_of_getElem? (i := 21) rfl)
theorem dX4_emit_35 : decode cX4_emit 35 = .ok (.iadd, 1) := dgX4_emit_0 (35, (.iadd, 1)) (List.mem_of_getElem? (i := 22) rfl)
theorem dX4_emit_36 : decode cX4_emit 36 = .ok (.putfield 36, 3) := dgX4_emit_0 (36, (.putfield 36, 3)) (List.mem_of_getElem? (i := 23) rfl)
theorem dX4_emit_39 : decode cX4_emit 39 = .ok (.aload_n 0, 1) := dgX4_emit_0 (39, (.aload_n 0, 1)) (List.mem_of_getElem? (i := 24) rfl)
theorem dX4_emit_40 : decode cX4_emit 40 = .ok (.getfield 36, 3) := dgX4_emit_0 (40, (.getfield 36, 3)) (List.mem_of_getElem? (i := 25) rfl)
theorem dX4_emit_43 : decode cX4_emit 43 = .ok (.iconst 1, 1) := dgX4_emit_0 (43, (.iconst 1, 1)) (List.mem_of_getElem? (i := 26) rfl)
theorem dX4_emit_44 : decode cX4_emit 44 = .ok (.isub, 1) := dgX4_emit_0 (44, (.isub, 1)) (List.mem_of_getElem? (i := 27) rfl)
theorem dX4_emit_45 : decode cX4_emit 45 = .ok (.ireturn, 1) := dgX4_emit_0 (45, (.ireturn, 1)) (List.mem_of_getElem? (i := 28) rfl)
set_option maxHeartbeats 4000000 in
set_option maxRecDepth 100000 in
theorem r_emit (l : Launch) (G : g5_G) (a_r a_rc a_tk a_rh a_rs : Nat) (sz : Nat) (e_ln : Int32) (e_pa : Int32) (e_at : Int32) (e_fp : Int32) (p_o : Int32) (p_a : Int32) (f_rc : Nat → Int32) (h_e_ln : 0 ≤ e_ln.toInt ∧ e_ln.toInt ≤ 400) (h_e_pa : 0 ≤ e_pa.toInt ∧ e_pa.toInt ≤ 50) (h_e_at : 0 ≤ e_at.toInt ∧ e_at.toInt ≤ 401) (e_cd : CDI f_rc e_ln.toInt) (e_v : wOK ((p_o <<< (12 &&& 31)) ||| p_a)) : Met l yX4_emit (wsG yX4_emit cX4_emit 3 (some .int)) ({ frames := 0, cells := 0, slots := 0, locals := 0 }) (va_Pc [.ref a_r, .int p_o, .int p_a] (g5_P G [(a_r, (oc4 a_tk a_rh a_rs a_rc e_ln e_pa e_at e_fp)), (a_rc, (arI G 400 f_rc))] sz)) (va_Qi (fun (r : Int32) (u : va_W) => (∃ (o_r : Int32) (o_ln : Int32) (o_rc : Nat → Int32), (-1 ≤ o_r.toInt ∧ o_r.toInt ≤ 399) ∧ (e_ln.toInt ≤ o_ln.toInt ∧ o_ln.toInt ≤ 400) ∧ (CDI o_rc o_ln.toInt) ∧ (OPK f_rc o_rc e_ln.toInt) ∧ (0 ≤ o_r.toInt → o_r.toInt < o_ln.toInt ∧ o_rc o_r.toNatClampNeg = ((p_o <<< (12 &&& 31)) ||| p_a)) ∧ (r = o_r) ∧ (u = [(a_r, (oc4 a_tk a_rh a_rs a_rc o_ln e_pa e_at e_fp)), (a_rc, (arI G 400 o_rc))]))) (g5_B G (va_A [(a_r, (oc4 a_tk a_rh a_rs a_rc e_ln e_pa e_at e_fp)), (a_rc, (arI G 400 f_rc))] sz)) (va_A [(a_r, (oc4 a_tk a_rh a_rs a_rc e_ln e_pa e_at e_fp)), (a_rc, (arI G 400 f_rc))] sz)) 0 0 (va_A [(a_r, (oc4 a_tk a_rh a_rs a_rc e_ln e_pa e_at e_fp)), (a_rc, (arI G 400 f_rc))] sz) := by
  refine Met.ofW (cc := cX4_emit) (maxL := 3) (ret := (some .int)) (by decide) rfl ?_
  intro p e s m args below meth c s₁ B hml hv
  obtain ⟨rfl, hsz, hP, hK, hD0, hN, hT⟩ := hv
  have hx := B.exec
  have hb := B.bytes
  have hr := B.returns
  have hts : ∀ w ∈ tblG, w.before _ s = true := fun w h => atoms_spec (ws := (wsG yX4_emit cX4_emit 3 (some .int))) B.pre w (List.mem_cons_of_mem _ h)
  have hown : s.vm.findClass RX4 = some m.cls := findClass_of_methodNamed B.named
  have hlocks := B.notSynchronized
  subst hsz
  have hD := hD0.self (sz := s.heap.size)
  generalize hAe : va_A [(a_r, (oc4 a_tk a_rh a_rs a_rc e_ln e_pa e_at e_fp)), (a_rc, (arI G 400 f_rc))] s.heap.size = A at hD hT ⊢
  have hA : ∀ q : Nat, s.heap.size ≤ q → A q := fun q h => by rw [← hAe]; exact Or.inr h
  have hS : va_S A s.heap s.heap [] := va_S.rf
  have hP : va_P G.1 vwCl [(a_r, (oc4 a_tk a_rh a_rs a_rc e_ln e_pa e_at e_fp)), (a_rc, (arI G 400 f_rc))] s.heap := hP
  have hl := lv_entry ([.ref a_r, .int p_o, .int p_a]) (n := 3) (Nat.le_of_ble_eq_true rfl)
  rw [lg_entry_eq]
  generalize (lg_sl ([.ref a_r, .int p_o, .int p_a]) ++ List.replicate (3 - (lg_sl ([.ref a_r, .int p_o, .int p_a])).length) Slot.unset).toArray = ls at hl ⊢
  have hl : lv_has ls 3 [(0, .ref a_r), (1, .int p_o), (2, .int p_a)] := hl
  refine lv_aload_n hx hb dX4_emit_0 rfl (lv_at hl 0 rfl) ?_
  refine va_get (D := G.1) (ci := 4) (v := .int e_ln) (C := RX4) (T := TX4) (N := 8) hx hb hts inG_X4 hown hK hP 0 rfl rfl 4 (by decide) (hts _ fl_X4_36) (fun _ h9 => h9) rfl dX4_emit_1 ?_
  refine lv_aload_n hx hb dX4_emit_4 rfl (lv_at hl 0 rfl) ?_
  refine va_get (D := G.1) (ci := 4) (v := .ref a_rc) (C := RX4) (T := TX4) (N := 8) hx hb hts inG_X4 hown hK hP 0 rfl rfl 3 (by decide) (hts _ fl_X4_25) (fun _ h9 => h9) rfl dX4_emit_5 ?_
  refine va_alen hx hb hK hP 1 0 rfl rfl (v := 400) (by show Int32.ofNat 400 = 400; decide) dX4_emit_8 ?_
  refine lv_icmp_lt (tgt := 14) hx hb dX4_emit_9 (by decide) (fun c_1 => ?_) (fun c_1 => ?_)
  ·
    have i_1 : e_ln.toInt < 400 := by have z := g5_lt (a := e_ln.toInt) (b := 400) (by rfl) (by decide) c_1; omega
    refine lv_aload_n hx hb dX4_emit_14 rfl (lv_at hl 0 rfl) ?_
    refine va_get (D := G.1) (ci := 4) (v := .ref a_rc) (C := RX4) (T := TX4) (N := 8) hx hb hts inG_X4 hown hK hP 0 rfl rfl 3 (by decide) (hts _ fl_X4_25) (fun _ h9 => h9) rfl dX4_emit_15 ?_
    refine lv_aload_n hx hb dX4_emit_18 rfl (lv_at hl 0 rfl) ?_
    refine va_get (D := G.1) (ci := 4) (v := .int e_ln) (C := RX4) (T := TX4) (N := 8) hx hb hts inG_X4 hown hK hP 0 rfl rfl 4 (by decide) (hts _ fl_X4_36) (fun _ h9 => h9) rfl dX4_emit_19 ?_
    refine lv_iload_n hx hb dX4_emit_22 rfl (lv_at hl 1 rfl) ?_
    refine lv_bipush (v := 12) hx hb dX4_emit_23 (by decide) ?_
    refine lv_ishl hx hb dX4_emit_25 ?_
    refine lv_iload_n hx hb dX4_emit_26 rfl (lv_at hl 2 rfl) ?_
    refine lv_ior hx hb dX4_emit_27 ?_
    refine va_iast hx hb hK hP hD hS 1 0 rfl rfl (i := e_ln) (x := ((p_o <<< (12 &&& 31)) ||| p_a)) (vp_in_iff.mpr ⟨by omega, by omega⟩) dX4_emit_28 (fun H locs hP hD hS => ?_)
    refine g5_rs [(a_r, (oc4 a_tk a_rh a_rs a_rc e_ln e_pa e_at e_fp)), (a_rc, (arI G 400 (upd f_rc e_ln.toNatClampNeg ((p_o <<< (12 &&& 31)) ||| p_a))))] hP hD (fun hP hD => ?_)
    refine lv_aload_n hx hb dX4_emit_29 rfl (lv_at hl 0 rfl) ?_
    refine lv_dup hx hb dX4_emit_30 rfl ?_
    refine va_get (D := G.1) (ci := 4) (v := .int e_ln) (C := RX4) (T := TX4) (N := 8) hx hb hts inG_X4 hown hK hP 0 rfl rfl 4 (by decide) (hts _ fl_X4_36) (fun _ h9 => h9) rfl dX4_emit_31 ?_
    refine lv_iconst (v := 1) hx hb dX4_emit_34 (by decide) ?_
    refine lv_iadd hx hb dX4_emit_35 ?_
    have t_2 : (e_ln + 1).toInt = e_ln.toInt + 1 := g5_iadd (a := e_ln.toInt) (b := 1) (by rfl) (by decide) (by omega) (by omega)
    refine va_put (D := G.1) (ci := 4) (v := .int (e_ln + 1)) (ty := .int) (C := RX4) (T := TX4) (N := 8) hx hb hts inG_X4 tyX4 tyX4_ok nmX4 hown hK hP hD hS 0 rfl rfl 4 (by decide) (hts _ fl_X4_36) (fun _ h9 => h9) rfl (by decide +kernel) rfl rfl (Nat.le_of_ble_eq_true rfl) dX4_emit_36 (fun H locs hP hD hS => ?_)
    refine g5_rs [(a_r, (oc4 a_tk a_rh a_rs a_rc (e_ln + 1) e_pa e_at e_fp)), (a_rc, (arI G 400 (upd f_rc e_ln.toNatClampNeg ((p_o <<< (12 &&& 31)) ||| p_a))))] hP hD (fun hP hD => ?_)
    refine lv_aload_n hx hb dX4_emit_39 rfl (lv_at hl 0 rfl) ?_
    refine va_get (D := G.1) (ci := 4) (v := .int (e_ln + 1)) (C := RX4) (T := TX4) (N := 8) hx hb hts inG_X4 hown hK hP 0 rfl rfl 4 (by decide) (hts _ fl_X4_36) (fun _ h9 => h9) rfl dX4_emit_40 ?_
    refine lv_iconst (v := 1) hx hb dX4_emit_43 (by decide) ?_
    refine lv_isub hx hb dX4_emit_44 ?_
    have t_3 : ((e_ln + 1) - 1).toInt = (e_ln + 1).toInt - 1 := g5_isub (a := (e_ln + 1).toInt) (b := 1) (by rfl) (by decide) (by omega) (by omega)
    exact W.iret (v := ((e_ln + 1) - 1)) hx hb hr (fun t ht hW => ⟨⟨((e_ln + 1) - 1), [(a_r, (oc4 a_tk a_rh a_rs a_rc (e_ln + 1) e_pa e_at e_fp)), (a_rc, (arI G 400 (upd f_rc e_ln.toNatClampNeg ((p_o <<< (12 &&& 31)) ||| p_a))))], rfl, ⟨((e_ln + 1) - 1), (e_ln + 1), (upd f_rc e_ln.toNatClampNeg ((p_o <<< (12 &&& 31)) ||| p_a)), ⟨by omega, by omega⟩, ⟨by omega, by omega⟩, cdi_emit e_cd (by omega) (by omega) e_v, opk_emit (by omega), fun _ => ⟨by omega, by unfold upd; rw [if_pos (by rw [g5_clamp, g5_clamp]; omega)]⟩, rfl, rfl⟩, by rw [ht]; exact hP.sub [0, 1] rfl, hD.sub [0, 1] (by decide) rfl⟩, hS.F ht⟩) hS.2.2 dX4_emit_45
  ·
    have i_1 : e_ln.toInt ≥ 400 := by have z := g5_ltN (a := e_ln.toInt) (b := 400) (by rfl) (by decide) c_1; omega
    refine lv_iconst (v := (-1)) hx hb dX4_emit_12 (by decide) ?_
    exact W.iret (v := (-1)) hx hb hr (fun t ht hW => ⟨⟨(-1), [(a_r, (oc4 a_tk a_rh a_rs a_rc e_ln e_pa e_at e_fp)), (a_rc, (arI G 400 f_rc))], rfl, ⟨(-1), e_ln, f_rc, ⟨by have zc_o_r : ((-1) : Int32).toInt = (-1) := (by decide); omega, by have zc_o_r : ((-1) : Int32).toInt = (-1) := (by decide); omega⟩, ⟨by omega, by omega⟩, e_cd, opk_refl, fun h => absurd h (by decide), rfl, rfl⟩, by rw [ht]; exact hP.sub [0, 1] rfl, hD.sub [0, 1] (by decide) rfl⟩, hS.F ht⟩) hS.2.2 dX4_emit_13
theorem dgX4_readPart_0 : ∀ r ∈ ([(0, (.aload_n 0, 1)), (1, (.bipush 91, 2)), (3, (.invokevirtual 49, 3)), (6, (.ifCond .eq 43, 3)), (9, (.iload_n 1, 1)), (10, (.bipush 8, 2)), (12, (.if_icmp .ge 35, 3)), (15, (.aload_n 0, 1)), (16, (.bipush 91, 2)), (18, (.invokevirtual 63, 3)), (21, (.ifCond .eq 26, 3)), (24, (.aload_n 0, 1)), (25, (.iload_n 1, 1)), (26, (.iconst 1, 1)), (27, (.iadd, 1)), (28, (.invokevirtual 73, 3)), (31, (.ifCond .eq 16, 3)), (34, (.aload_n 0, 1)), (35, (.bipush 93, 2)), (37, (.invokevirtual 63, 3)), (40, (.ifCond .eq 7, 3)), (43, (.iconst 1, 1)), (44, (.goto 4, 3)), (47, (.iconst 0, 1)), (48, (.ireturn, 1)), (49, (.aload_n 0, 1)), (50, (.getfield 12, 3)), (53, (.aload_n 0, 1)), (54, (.getfield 42, 3)), (57, (.invokevirtual 69, 3)), (60, (.sipush 256, 3)), (63, (.isub, 1)), (64, (.bipush 8, 2)), (66, (.isub, 1)), (67, (.istore_n 2, 1)), (68, (.iload_n 2, 1)), (69, (.ifCond .lt 13, 3)), (72, (.iload_n 2, 1)), (73, (.bipush 8, 2)), (75, (.if_icmp .ge 7, 3))] : List (Nat × (Instr × Nat))), decode cX4_readPart r.1 = .ok r.2 := by decide +kernel
theorem dX4_readPart_0 : decode cX4_readPart 0 = .ok (.aload_n 0, 1) := dgX4_readPart_0 (0, (.aload_n 0, 1)) (List.mem_of_getElem? (i := 0) rfl)
theorem dX4_readPart_1 : decode cX4_readPart 1 = .ok (.bipush 91, 2) := dgX4_readPart_0 (1, (.bipush 91, 2)) (List.mem_of_getElem? (i := 1) rfl)
theorem dX4_readPart_3 : decode cX4_readPart 3 = .ok (.invokevirtual 49, 3) := dgX4_readPart_0 (3, (.invokevirtual 49, 3)) (List.mem_of_getElem? (i := 2) rfl)
theorem dX4_readPart_6 : decode cX4_readPart 6 = .ok (.ifCond .eq 43, 3) := dgX4_readPart_0 (6, (.ifCond .eq 43, 3)) (List.mem_of_getElem? (i := 3) rfl)
theorem dX4_readPart_9 : decode cX4_readPart 9 = .ok (.iload_n 1, 1) := dgX4_readPart_0 (9, (.iload_n 1, 1)) (List.mem_of_getElem? (i := 4) rfl)
theorem dX4_readPart_10 : decode cX4_readPart 10 = .ok (.bipush 8, 2) := dgX4_readPart_0 (10, (.bipush 8, 2)) (List.mem_of_getElem? (i := 5) rfl)
theorem dX4_readPart_12 : decode cX4_readPart 12 = .ok (.if_icmp .ge 35, 3) := dgX4_readPart_0 (12, (.if_icmp .ge 35, 3)) (List.mem_of_getElem? (i := 6) rfl)
theorem dX4_readPart_15 : decode cX4_readPart 15 = .ok (.aload_n 0, 1) := dgX4_readPart_0 (15, (.aload_n 0, 1)) (List.mem_of_getElem? (i := 7) rfl)
theorem dX4_readPart_16 : decode cX4_readPart 16 = .ok (.bipush 91, 2) := dgX4_readPart_0 (16, (.bipush 91, 2)) (List.mem_of_getElem? (i := 8) rfl)
theorem dX4_readPart_18 : decode cX4_readPart 18 = .ok (.invokevirtual 63, 3) := dgX4_readPart_0 (18, (.invokevirtual 63, 3)) (List.mem_of_getElem? (i := 9) rfl)
theorem dX4_readPart_21 : decode cX4_readPart 21 = .ok (.ifCond .eq 26, 3) := dgX4_readPart_0 (21, (.ifCond .eq 26, 3)) (List.mem_of_getElem? (i := 10) rfl)
theorem dX4_readPart_24 : decode cX4_readPart 24 = .ok (.aload_n 0, 1) := dgX4_readPart_0 (24, (.aload_n 0, 1)) (List.mem_of_getElem? (i := 11) rfl)
theorem dX4_readPart_25 : decode cX4_readPart 25 = .ok (.iload_n 1, 1) := dgX4_readPart_0 (25, (.iload_n 1, 1)) (List.mem_of_getElem? (i := 12) rfl)
theorem dX4_readPart_26 : decode cX4_readPart 26 = .ok (.iconst 1, 1) := dgX4_readPart_0 (26, (.iconst 1, 1)) (List.mem_of_getElem? (i := 13) rfl)
theorem dX4_readPart_27 : decode cX4_readPart 27 = .ok (.iadd, 1) := dgX4_readPart_0 (27, (.iadd, 1)) (List.mem_of_getElem? (i := 14) rfl)
theorem dX4_readPart_28 : decode cX4_readPart 28 = .ok (.invokevirtual 73, 3) := dgX4_readPart_0 (28, (.invokevirtual 73, 3)) (List.mem_of_getElem? (i := 15) rfl)
theorem dX4_readPart_31 : decode cX4_readPart 31 = .ok (.ifCond .eq 16, 3) := dgX4_readPart_0 (31, (.ifCond .eq 16, 3)) (List.mem_of_getElem? (i := 16) rfl)
theorem dX4_readPart_34 : decode cX4_readPart 34 = .ok (.aload_n 0, 1) := dgX4_readPart_0 (34, (.aload_n 0, 1)) (List.mem_of_getElem? (i := 17) rfl)
theorem dX4_readPart_35 : decode cX4_readPart 35 = .ok (.bipush 93, 2) := dgX4_readPart_0 (35, (.bipush 93, 2)) (List.mem_of_getElem? (i := 18) rfl)
theorem dX4_readPart_37 : decode cX4_readPart 37 = .ok (.invokevirtual 63, 3) := dgX4_readPart_0 (37, (.invokevirtual 63, 3)) (List.mem_of_getElem? (i := 19) rfl)
theorem dX4_readPart_40 : decode cX4_readPart 40 = .ok (.ifCond .eq 7, 3) := dgX4_readPart_0 (40, (.ifCond .eq 7, 3)) (List.mem_of_getElem? (i := 20) rfl)
theorem dX4_readPart_43 : decode cX4_readPart 43 = .ok (.iconst 1, 1) := dgX4_readPart_0 (43, (.iconst 1, 1)) (List.mem_of_getElem? (i := 21) rfl)
theorem dX4_readPart_44 : decode cX4_readPart 44 = .ok (.goto 4, 3) := dgX4_readPart_0 (44, (.goto 4, 3)) (List.mem_of_getElem? (i := 22) rfl)
theorem dX4_readPart_47 : decode cX4_readPart 47 = .ok (.iconst 0, 1) := dgX4_readPart_0 (47, (.iconst 0, 1)) (List.mem_of_getElem? (i := 23) rfl)
theorem dX4_readPart_48 : decode cX4_readPart 48 = .ok (.ireturn, 1) := dgX4_readPart_0 (48, (.ireturn, 1)) (List.mem_of_getElem? (i := 24) rfl)
theorem dX4_readPart_49 : decode cX4_readPart 49 = .ok (.aload_n 0, 1) := dgX4_readPart_0 (49, (.aload_n 0, 1)) (List.mem_of_getElem? (i := 25) rfl)
theorem dX4_readPart_50 : decode cX4_readPart 50 = .ok (.getfield 12, 3) := dgX4_readPart_0 (50, (.getfield 12, 3)) (List.mem_of_getElem? (i := 26) rfl)
theorem dX4_readPart_53 : decode cX4_readPart 53 = .ok (.aload_n 0, 1) := dgX4_readPart_0 (53, (.aload_n 0, 1)) (List.mem_of_getElem? (i := 27) rfl)
theorem dX4_readPart_54 : decode cX4_readPart 54 = .ok (.getfield 42, 3) := dgX4_readPart_0 (54, (.getfield 42, 3)) (List.mem_of_getElem? (i := 28) rfl)
theorem dX4_readPart_57 : decode cX4_readPart 57 = .ok (.invokevirtual 69, 3) := dgX4_readPart_0 (57, (.invokevirtual 69, 3)) (List.mem_of_getElem? (i := 29) rfl)
theorem dX4_readPart_60 : decode cX4_readPart 60 = .ok (.sipush 256, 3) := dgX4_readPart_0 (60, (.sipush 256, 3)) (List.mem_of_getElem? (i := 30) rfl)
theorem dX4_readPart_63 : decode cX4_readPart 63 = .ok (.isub, 1) := dgX4_readPart_0 (63, (.isub, 1)) (List.mem_of_getElem? (i := 31) rfl)
theorem dX4_readPart_64 : decode cX4_readPart 64 = .ok (.bipush 8, 2) := dgX4_readPart_0 (64, (.bipush 8, 2)) (List.mem_of_getElem? (i := 32) rfl)
theorem dX4_readPart_66 : decode cX4_readPart 66 = .ok (.isub, 1) := dgX4_readPart_0 (66, (.isub, 1)) (List.mem_of_getElem? (i := 33) rfl)
theorem dX4_readPart_67 : decode cX4_readPart 67 = .ok (.istore_n 2, 1) := dgX4_readPart_0 (67, (.istore_n 2, 1)) (List.mem_of_getElem? (i := 34) rfl)
theorem dX4_readPart_68 : decode cX4_readPart 68 = .ok (.iload_n 2, 1) := dgX4_readPart_0 (68, (.iload_n 2, 1)) (List.mem_of_getElem? (i := 35) rfl)
theorem dX4_readPart_69 : decode cX4_readPart 69 = .ok (.ifCond .lt 13, 3) := dgX4_readPart_0 (69, (.ifCond .lt 13, 3)) (List.mem_of_getElem? (i := 36) rfl)
theorem dX4_readPart_72 : decode cX4_readPart 72 = .ok (.iload_n 2, 1) := dgX4_readPart_0 (72, (.iload_n 2, 1)) (List.mem_of_getElem? (i := 37) rfl)
theorem dX4_readPart_73 : decode cX4_readPart 73 = .ok (.bipush 8, 2) := dgX4_readPart_0 (73, (.bipush 8, 2)) (List.mem_of_getElem? (i := 38) rfl)
theorem dX4_readPart_75 : decode cX4_readPart 75 = .ok (.if_icmp .ge 7, 3) := dgX4_readPart_0 (75, (.if_icmp .ge 7, 3)) (List.mem_of_getElem? (i := 39) rfl)
theorem dgX4_readPart_1 : ∀ r ∈ ([(78, (.iconst 1, 1)), (79, (.goto 4, 3)), (82, (.iconst 0, 1)), (83, (.istore_n 3, 1)), (84, (.iload_n 3, 1)), (85, (.ifCond .ne 13, 3)), (88, (.aload_n 0, 1)), (89, (.sipush 300, 3)), (92, (.invokevirtual 49, 3)), (95, (.ifCond .eq 12, 3)), (98, (.aload_n 0, 1)), (99, (.getfield 39, 3)), (102, (.bipush 50, 2)), (104, (.if_icmp .lt 5, 3)), (107, (.iconst 0, 1)), (108, (.ireturn, 1)), (109, (.aload_n 0, 1)), (110, (.iload_n 3, 1)), (111, (.ifCond .eq 7, 3)), (114, (.iconst 1, 1)), (115, (.goto 4, 3)), (118, (.iconst 0, 1)), (119, (.iload_n 3, 1)), (120, (.ifCond .eq 7, 3)), (123, (.iload_n 2, 1)), (124, (.goto 15, 3)), (127, (.aload_n 0, 1)), (128, (.getfield 12, 3)), (131, (.getfield 93, 3)), (134, (.aload_n 0, 1)), (135, (.getfield 42, 3)), (138, (.iaload, 1)), (139, (.invokevirtual 79, 3)), (142, (.pop, 1)), (143, (.aload_n 0, 1)), (144, (.dup, 1)), (145, (.getfield 39, 3)), (148, (.iconst 1, 1)), (149, (.iadd, 1)), (150, (.putfield 39, 3))] : List (Nat × (Instr × Nat))), decode cX4_readPart r.1 = .ok r.2 := by decide +kernel
theorem dX4_readPart_78 : decode cX4_readPart 78 = .ok (.iconst 1, 1) := dgX4_readPart_1 (78, (.iconst 1, 1)) (List.mem_of_getElem? (i := 0) rfl)
theorem dX4_readPart_79 : decode cX4_readPart 79 = .ok (.goto 4, 3) := dgX4_readPart_1 (79, (.goto 4, 3)) (List.mem_of_getElem? (i := 1) rfl)
theorem dX4_readPart_82 : decode cX4_readPart 82 = .ok (.iconst 0, 1) := dgX4_readPart_1 (82, (.iconst 0, 1)) (List.mem_of_getElem? (i := 2) rfl)
theorem dX4_readPart_83 : decode cX4_readPart 83 = .ok (.istore_n 3, 1) := dgX4_readPart_1 (83, (.istore_n 3, 1)) (List.mem_of_getElem? (i := 3) rfl)
theorem dX4_readPart_84 : decode cX4_readPart 84 = .ok (.iload_n 3, 1) := dgX4_readPart_1 (84, (.iload_n 3, 1)) (List.mem_of_getElem? (i := 4) rfl)
theorem dX4_readPart_85 : decode cX4_readPart 85 = .ok (.ifCond .ne 13, 3) := dgX4_readPart_1 (85, (.ifCond .ne 13, 3)) (List.mem_of_getElem? (i := 5) rfl)
theorem dX4_readPart_88 : decode cX4_readPart 88 = .ok (.aload_n 0, 1) := dgX4_readPart_1 (88, (.aload_n 0, 1)) (List.mem_of_getElem? (i := 6) rfl)
theorem dX4_readPart_89 : decode cX4_readPart 89 = .ok (.sipush 300, 3) := dgX4_readPart_1 (89, (.sipush 300, 3)) (List.mem_of_getElem? (i := 7) rfl)
theorem dX4_readPart_92 : decode cX4_readPart 92 = .ok (.invokevirtual 49, 3) := dgX4_readPart_1 (92, (.invokevirtual 49, 3)) (List.mem_of_getElem? (i := 8) rfl)
theorem dX4_readPart_95 : decode cX4_readPart 95 = .ok (.ifCond .eq 12, 3) := dgX4_readPart_1 (95, (.ifCond .eq 12, 3)) (List.mem_of_getElem? (i := 9) rfl)
theorem dX4_readPart_98 : decode cX4_readPart 98 = .ok (.aload_n 0, 1) := dgX4_readPart_1 (98, (.aload_n 0, 1)) (List.mem_of_getElem? (i := 10) rfl)
theorem dX4_readPart_99 : decode cX4_readPart 99 = .ok (.getfield 39, 3) := dgX4_readPart_1 (99, (.getfield 39, 3)) (List.mem_of_getElem? (i := 11) rfl)
theorem dX4_readPart_102 : decode cX4_readPart 102 = .ok (.bipush 50, 2) := dgX4_readPart_1 (102, (.bipush 50, 2)) (List.mem_of_getElem? (i := 12) rfl)
theorem dX4_readPart_104 : decode cX4_readPart 104 = .ok (.if_icmp .lt 5, 3) := dgX4_readPart_1 (104, (.if_icmp .lt 5, 3)) (List.mem_of_getElem? (i := 13) rfl)
theorem dX4_readPart_107 : decode cX4_readPart 107 = .ok (.iconst 0, 1) := dgX4_readPart_1 (107, (.iconst 0, 1)) (List.mem_of_getElem? (i := 14) rfl)
theorem dX4_readPart_108 : decode cX4_readPart 108 = .ok (.ireturn, 1) := dgX4_readPart_1 (108, (.ireturn, 1)) (List.mem_of_getElem? (i := 15) rfl)
theorem dX4_readPart_109 : decode cX4_readPart 109 = .ok (.aload_n 0, 1) := dgX4_readPart_1 (109, (.aload_n 0, 1)) (List.mem_of_getElem? (i := 16) rfl)
theorem dX4_readPart_110 : decode cX4_readPart 110 = .ok (.iload_n 3, 1) := dgX4_readPart_1 (110, (.iload_n 3, 1)) (List.mem_of_getElem? (i := 17) rfl)
theorem dX4_readPart_111 : decode cX4_readPart 111 = .ok (.ifCond .eq 7, 3) := dgX4_readPart_1 (111, (.ifCond .eq 7, 3)) (List.mem_of_getElem? (i := 18) rfl)
theorem dX4_readPart_114 : decode cX4_readPart 114 = .ok (.iconst 1, 1) := dgX4_readPart_1 (114, (.iconst 1, 1)) (List.mem_of_getElem? (i := 19) rfl)
theorem dX4_readPart_115 : decode cX4_readPart 115 = .ok (.goto 4, 3) := dgX4_readPart_1 (115, (.goto 4, 3)) (List.mem_of_getElem? (i := 20) rfl)
theorem dX4_readPart_118 : decode cX4_readPart 118 = .ok (.iconst 0, 1) := dgX4_readPart_1 (118, (.iconst 0, 1)) (List.mem_of_getElem? (i := 21) rfl)
theorem dX4_readPart_119 : decode cX4_readPart 119 = .ok (.iload_n 3, 1) := dgX4_readPart_1 (119, (.iload_n 3, 1)) (List.mem_of_getElem? (i := 22) rfl)
theorem dX4_readPart_120 : decode cX4_readPart 120 = .ok (.ifCond .eq 7, 3) := dgX4_readPart_1 (120, (.ifCond .eq 7, 3)) (List.mem_of_getElem? (i := 23) rfl)
theorem dX4_readPart_123 : decode cX4_readPart 123 = .ok (.iload_n 2, 1) := dgX4_readPart_1 (123, (.iload_n 2, 1)) (List.mem_of_getElem? (i := 24) rfl)
theorem dX4_readPart_124 : decode cX4_readPart 124 = .ok (.goto 15, 3) := dgX4_readPart_1 (124, (.goto 15, 3)) (List.mem_of_getElem? (i := 25) rfl)
theorem dX4_readPart_127 : decode cX4_readPart 127 = .ok (.aload_n 0, 1) := dgX4_readPart_1 (127, (.aload_n 0, 1)) (List.mem_of_getElem? (i := 26) rfl)
theorem dX4_readPart_128 : decode cX4_readPart 128 = .ok (.getfield 12, 3) := dgX4_readPart_1 (128, (.getfield 12, 3)) (List.mem_of_getElem? (i := 27) rfl)
theorem dX4_readPart_131 : decode cX4_readPart 131 = .ok (.getfield 93, 3) := dgX4_readPart_1 (131, (.getfield 93, 3)) (List.mem_of_getElem? (i := 28) rfl)
theorem dX4_readPart_134 : decode cX4_readPart 134 = .ok (.aload_n 0, 1) := dgX4_readPart_1 (134, (.aload_n 0, 1)) (List.mem_of_getElem? (i := 29) rfl)
theorem dX4_readPart_135 : decode cX4_readPart 135 = .ok (.getfield 42, 3) := dgX4_readPart_1 (135, (.getfield 42, 3)) (List.mem_of_getElem? (i := 30) rfl)
theorem dX4_readPart_138 : decode cX4_readPart 138 = .ok (.iaload, 1) := dgX4_readPart_1 (138, (.iaload, 1)) (List.mem_of_getElem? (i := 31) rfl)
theorem dX4_readPart_139 : decode cX4_readPart 139 = .ok (.invokevirtual 79, 3) := dgX4_readPart_1 (139, (.invokevirtual 79, 3)) (List.mem_of_getElem? (i := 32) rfl)
theorem dX4_readPart_142 : decode cX4_readPart 142 = .ok (.pop, 1) := dgX4_readPart_1 (142, (.pop, 1)) (List.mem_of_getElem? (i := 33) rfl)
theorem dX4_readPart_143 : decode cX4_readPart 143 = .ok (.aload_n 0, 1) := dgX4_readPart_1 (143, (.aload_n 0, 1)) (List.mem_of_getElem? (i := 34) rfl)
theorem dX4_readPart_144 : decode cX4_readPart 144 = .ok (.dup, 1) := dgX4_readPart_1 (144, (.dup, 1)) (List.mem_of_getElem? (i := 35) rfl)
theorem dX4_readPart_145 : decode cX4_readPart 145 = .ok (.getfield 39, 3) := dgX4_readPart_1 (145, (.getfield 39, 3)) (List.mem_of_getElem? (i := 36) rfl)
theorem dX4_readPart_148 : decode cX4_readPart 148 = .ok (.iconst 1, 1) := dgX4_readPart_1 (148, (.iconst 1, 1)) (List.mem_of_getElem? (i := 37) rfl)
theorem dX4_readPart_149 : decode cX4_readPart 149 = .ok (.iadd, 1) := dgX4_readPart_1 (149, (.iadd, 1)) (List.mem_of_getElem? (i := 38) rfl)
theorem dX4_readPart_150 : decode cX4_readPart 150 = .ok (.putfield 39, 3) := dgX4_readPart_1 (150, (.putfield 39, 3)) (List.mem_of_getElem? (i := 39) rfl)
theorem dgX4_readPart_2 : ∀ r ∈ ([(153, (.aload_n 0, 1)), (154, (.dup, 1)), (155, (.getfield 42, 3)), (158, (.iconst 1, 1)), (159, (.iadd, 1)), (160, (.putfield 42, 3)), (163, (.iconst 1, 1)), (164, (.ireturn, 1))] : List (Nat × (Instr × Nat))), decode cX4_readPart r.1 = .ok r.2 := by decide +kernel
theorem dX4_readPart_153 : decode cX4_readPart 153 = .ok (.aload_n 0, 1) := dgX4_readPart_2 (153, (.aload_n 0, 1)) (List.mem_of_getElem? (i := 0) rfl)
theorem dX4_readPart_154 : decode cX4_readPart 154 = .ok (.dup, 1) := dgX4_readPart_2 (154, (.dup, 1)) (List.mem_of_getElem? (i := 1) rfl)
theorem dX4_readPart_155 : decode cX4_readPart 155 = .ok (.getfield 42, 3) := dgX4_readPart_2 (155, (.getfield 42, 3)) (List.mem_of_getElem? (i := 2) rfl)
theorem dX4_readPart_158 : decode cX4_readPart 158 = .ok (.iconst 1, 1) := dgX4_readPart_2 (158, (.iconst 1, 1)) (List.mem_of_getElem? (i := 3) rfl)
theorem dX4_readPart_159 : decode cX4_readPart 159 = .ok (.iadd, 1) := dgX4_readPart_2 (159, (.iadd, 1)) (List.mem_of_getElem? (i := 4) rfl)
theorem dX4_readPart_160 : decode cX4_readPart 160 = .ok (.putfield 42, 3) := dgX4_readPart_2 (160, (.putfield 42, 3)) (List.mem_of_getElem? (i := 5) rfl)
theorem dX4_readPart_163 : decode cX4_readPart 163 = .ok (.iconst 1, 1) := dgX4_readPart_2 (163, (.iconst 1, 1)) (List.mem_of_getElem? (i := 6) rfl)
theorem dX4_readPart_164 : decode cX4_readPart 164 = .ok (.ireturn, 1) := dgX4_readPart_2 (164, (.ireturn, 1)) (List.mem_of_getElem? (i := 7) rfl)
theorem ml_X4_49 : Cond.methodLink RX4 49 yX4_isNext ∈ tblG := tg 732 (by decide +kernel) (by decide +kernel)
theorem im_X4_isNext : Cond.instanceMethod yX4_isNext ∈ tblG := tg 734 (by decide +kernel) (by decide +kernel)
theorem se_X4_isNext : Cond.selects RX4 yX4_isNext yX4_isNext ∈ tblG := tg 7 (by decide +kernel) (by decide +kernel)
theorem ini_X4 : Cond.initialized RX4 ∈ tblG := tg 97 (by decide +kernel) (by decide +kernel)
theorem cd_X4_isNext : Cond.code yX4_isNext cX4_isNext 2 (some .boolean) ∈ tblG := tg 735 (by decide +kernel) (by decide +kernel)
theorem gW_X4_isNext : GoodIn tblG (wsG yX4_isNext cX4_isNext 2 (some .boolean)) := tgi cd_X4_isNext
theorem gV_X4_49 : GoodIn tblG (wsV RX4 49 RX4 yX4_isNext (wsG yX4_isNext cX4_isNext 2 (some .boolean))) := tgV ml_X4_49 im_X4_isNext se_X4_isNext ini_X4 gW_X4_isNext
theorem hv_X4_isNext : yX4_isNext.cls = RX4 ∧ yX4_isNext.cls ≠ "java/lang/invoke/MethodHandle" ∧ yX4_isNext.cls ≠ "java/lang/invoke/VarHandle" ∧ (parseMethodDescriptor yX4_isNext.desc).map (fun d => d.parameters.length) = some 1 := by decide +kernel
theorem ml_X4_63 : Cond.methodLink RX4 63 yX4_passed ∈ tblG := tg 736 (by decide +kernel) (by decide +kernel)
theorem im_X4_passed : Cond.instanceMethod yX4_passed ∈ tblG := tg 738 (by decide +kernel) (by decide +kernel)
theorem se_X4_passed : Cond.selects RX4 yX4_passed yX4_passed ∈ tblG := tg 8 (by decide +kernel) (by decide +kernel)
theorem cd_X4_passed : Cond.code yX4_passed cX4_passed 3 (some .boolean) ∈ tblG := tg 739 (by decide +kernel) (by decide +kernel)
theorem gW_X4_passed : GoodIn tblG (wsG yX4_passed cX4_passed 3 (some .boolean)) := tgi cd_X4_passed
theorem gV_X4_63 : GoodIn tblG (wsV RX4 63 RX4 yX4_passed (wsG yX4_passed cX4_passed 3 (some .boolean))) := tgV ml_X4_63 im_X4_passed se_X4_passed ini_X4 gW_X4_passed
theorem hv_X4_passed : yX4_passed.cls = RX4 ∧ yX4_passed.cls ≠ "java/lang/invoke/MethodHandle" ∧ yX4_passed.cls ≠ "java/lang/invoke/VarHandle" ∧ (parseMethodDescriptor yX4_passed.desc).map (fun d => d.parameters.length) = some 1 := by decide +kernel
theorem ml_X4_73 : Cond.methodLink RX4 73 yX4_readSum ∈ tblG := tg 724 (by decide +kernel) (by decide +kernel)
theorem im_X4_readSum : Cond.instanceMethod yX4_readSum ∈ tblG := tg 726 (by decide +kernel) (by decide +kernel)
theorem se_X4_readSum : Cond.selects RX4 yX4_readSum yX4_readSum ∈ tblG := tg 5 (by decide +kernel) (by decide +kernel)
theorem cd_X4_readSum : Cond.code yX4_readSum cX4_readSum 6 (some .boolean) ∈ tblG := tg 727 (by decide +kernel) (by decide +kernel)
theorem gW_X4_readSum : GoodIn tblG (wsG yX4_readSum cX4_readSum 6 (some .boolean)) := tgi cd_X4_readSum
theorem gV_X4_73 : GoodIn tblG (wsV RX4 73 RX4 yX4_readSum (wsG yX4_readSum cX4_readSum 6 (some .boolean))) := tgV ml_X4_73 im_X4_readSum se_X4_readSum ini_X4 gW_X4_readSum
theorem hv_X4_readSum : yX4_readSum.cls = RX4 ∧ yX4_readSum.cls ≠ "java/lang/invoke/MethodHandle" ∧ yX4_readSum.cls ≠ "java/lang/invoke/VarHandle" ∧ (parseMethodDescriptor yX4_readSum.desc).map (fun d => d.parameters.length) = some 1 := by decide +kernel
theorem ml_X4_69 : Cond.methodLink RX4 69 yX8_kindAt ∈ tblG := tg 720 (by decide +kernel) (by decide +kernel)
theorem im_X8_kindAt : Cond.instanceMethod yX8_kindAt ∈ tblG := tg 721 (by decide +kernel) (by decide +kernel)
theorem se_X8_kindAt : Cond.selects RX8 yX8_kindAt yX8_kindAt ∈ tblG := tg 722 (by decide +kernel) (by decide +kernel)
theorem cd_X8_kindAt : Cond.code yX8_kindAt cX8_kindAt 2 (some .int) ∈ tblG := tg 723 (by decide +kernel) (by decide +kernel)
theorem gW_X8_kindAt : GoodIn tblG (wsG yX8_kindAt cX8_kindAt 2 (some .int)) := tgi cd_X8_kindAt
theorem gV_X4_69 : GoodIn tblG (wsV RX4 69 RX8 yX8_kindAt (wsG yX8_kindAt cX8_kindAt 2 (some .int))) := tgV ml_X4_69 im_X8_kindAt se_X8_kindAt ini_X8 gW_X8_kindAt
theorem hv_X8_kindAt : yX8_kindAt.cls = RX8 ∧ yX8_kindAt.cls ≠ "java/lang/invoke/MethodHandle" ∧ yX8_kindAt.cls ≠ "java/lang/invoke/VarHandle" ∧ (parseMethodDescriptor yX8_kindAt.desc).map (fun d => d.parameters.length) = some 1 := by decide +kernel
theorem fl_X4_39 : Cond.fieldLink RX4 39 "LateGlass$LawReader" "parts" "I" ∈ tblG := tg 423 (by decide +kernel) (by decide +kernel)
theorem fl_X4_93 : Cond.fieldLink RX4 93 "LateGlass$Tokens" "numbers" "[I" ∈ tblG := tg 408 (by decide +kernel) (by decide +kernel)
theorem ml_X4_79 : Cond.methodLink RX4 79 yX4_emit ∈ tblG := tg 740 (by decide +kernel) (by decide +kernel)
theorem im_X4_emit : Cond.instanceMethod yX4_emit ∈ tblG := tg 742 (by decide +kernel) (by decide +kernel)
theorem se_X4_emit : Cond.selects RX4 yX4_emit yX4_emit ∈ tblG := tg 9 (by decide +kernel) (by decide +kernel)
theorem cd_X4_emit : Cond.code yX4_emit cX4_emit 3 (some .int) ∈ tblG := tg 743 (by decide +kernel) (by decide +kernel)
theorem gW_X4_emit : GoodIn tblG (wsG yX4_emit cX4_emit 3 (some .int)) := tgi cd_X4_emit
theorem gV_X4_79 : GoodIn tblG (wsV RX4 79 RX4 yX4_emit (wsG yX4_emit cX4_emit 3 (some .int))) := tgV ml_X4_79 im_X4_emit se_X4_emit ini_X4 gW_X4_emit
theorem hv_X4_emit : yX4_emit.cls = RX4 ∧ yX4_emit.cls ≠ "java/lang/invoke/MethodHandle" ∧ yX4_emit.cls ≠ "java/lang/invoke/VarHandle" ∧ (parseMethodDescriptor yX4_emit.desc).map (fun d => d.parameters.length) = some 2 := by decide +kernel
set_option maxHeartbeats 4000000 in
set_option maxRecDepth 100000 in
theorem r_part (fr lo : Nat) (p_d : Int32) (h_p_d : 0 ≤ p_d.toInt ∧ p_d.toInt ≤ 8) (h_sum : ∀ x : Int32, x.toInt = p_d.toInt + 1 → p_d.toInt < 8 → ∀ (l : Launch) (G : g5_G) (a_r a_tk a_kd a_nm a_rc a_rh a_rs a_pl : Nat) (sz : Nat) (e_ln : Int32) (e_pa : Int32) (e_at : Int32) (e_fp : Int32) (f_kd : Nat → Int32) (f_nm : Nat → Int32) (f_rc : Nat → Int32) (h_e_ln : 0 ≤ e_ln.toInt ∧ e_ln.toInt ≤ 400) (h_e_pa : 0 ≤ e_pa.toInt ∧ e_pa.toInt ≤ 50) (h_e_at : 0 ≤ e_at.toInt ∧ e_at.toInt ≤ 401) (e_tk : TOKI f_kd f_nm) (e_cd : CDI f_rc e_ln.toInt), Met l yX4_readSum (wsG yX4_readSum cX4_readSum 6 (some .boolean)) ({ frames := fr + 0, cells := 0, slots := 0, locals := lo + 0 }) (va_Pc [.ref a_r, .int x] (g5_P G [(a_r, (oc4 a_tk a_rh a_rs a_rc e_ln e_pa e_at e_fp)), (a_tk, (oc8 a_kd a_nm a_pl)), (a_kd, (arI G 401 f_kd)), (a_nm, (arI G 401 f_nm)), (a_rc, (arI G 400 f_rc))] sz)) (va_Qi (fun (r : Int32) (u : va_W) => (∃ (o_r : Int32) (o_ln : Int32) (o_pa : Int32) (o_at : Int32) (o_rc : Nat → Int32), (0 ≤ o_r.toInt ∧ o_r.toInt ≤ 1) ∧ (e_ln.toInt ≤ o_ln.toInt ∧ o_ln.toInt ≤ 400) ∧ (0 ≤ o_at.toInt ∧ o_at.toInt ≤ 401) ∧ (0 ≤ o_pa.toInt ∧ o_pa.toInt ≤ 50) ∧ (CDI o_rc o_ln.toInt) ∧ (OPK f_rc o_rc e_ln.toInt) ∧ (r = o_r) ∧ (u = [(a_r, (oc4 a_tk a_rh a_rs a_rc o_ln o_pa o_at e_fp)), (a_tk, (oc8 a_kd a_nm a_pl)), (a_kd, (arI G 401 f_kd)), (a_nm, (arI G 401 f_nm)), (a_rc, (arI G 400 o_rc))]))) (g5_B G (va_A [(a_r, (oc4 a_tk a_rh a_rs a_rc e_ln e_pa e_at e_fp)), (a_tk, (oc8 a_kd a_nm a_pl)), (a_kd, (arI G 401 f_kd)), (a_nm, (arI G 401 f_nm)), (a_rc, (arI G 400 f_rc))] sz)) (va_A [(a_r, (oc4 a_tk a_rh a_rs a_rc e_ln e_pa e_at e_fp)), (a_tk, (oc8 a_kd a_nm a_pl)), (a_kd, (arI G 401 f_kd)), (a_nm, (arI G 401 f_nm)), (a_rc, (arI G 400 f_rc))] sz)) 0 0 (va_A [(a_r, (oc4 a_tk a_rh a_rs a_rc e_ln e_pa e_at e_fp)), (a_tk, (oc8 a_kd a_nm a_pl)), (a_kd, (arI G 401 f_kd)), (a_nm, (arI G 401 f_nm)), (a_rc, (arI G 400 f_rc))] sz)) (l : Launch) (G : g5_G) (a_r a_tk a_kd a_nm a_rc a_rh a_rs a_pl : Nat) (sz : Nat) (e_ln : Int32) (e_pa : Int32) (e_at : Int32) (e_fp : Int32) (f_kd : Nat → Int32) (f_nm : Nat → Int32) (f_rc : Nat → Int32) (h_e_ln : 0 ≤ e_ln.toInt ∧ e_ln.toInt ≤ 400) (h_e_pa : 0 ≤ e_pa.toInt ∧ e_pa.toInt ≤ 50) (h_e_at : 0 ≤ e_at.toInt ∧ e_at.toInt ≤ 401) (e_tk : TOKI f_kd f_nm) (e_cd : CDI f_rc e_ln.toInt) : Met l yX4_readPart (wsG yX4_readPart cX4_readPart 4 (some .boolean)) ({ frames := fr + 1, cells := 0, slots := 0, locals := lo + 25 }) (va_Pc [.ref a_r, .int p_d] (g5_P G [(a_r, (oc4 a_tk a_rh a_rs a_rc e_ln e_pa e_at e_fp)), (a_tk, (oc8 a_kd a_nm a_pl)), (a_kd, (arI G 401 f_kd)), (a_nm, (arI G 401 f_nm)), (a_rc, (arI G 400 f_rc))] sz)) (va_Qi (fun (r : Int32) (u : va_W) => (∃ (o_r : Int32) (o_ln : Int32) (o_pa : Int32) (o_at : Int32) (o_rc : Nat → Int32), (0 ≤ o_r.toInt ∧ o_r.toInt ≤ 1) ∧ (e_ln.toInt ≤ o_ln.toInt ∧ o_ln.toInt ≤ 400) ∧ (0 ≤ o_at.toInt ∧ o_at.toInt ≤ 401) ∧ (0 ≤ o_pa.toInt ∧ o_pa.toInt ≤ 50) ∧ (CDI o_rc o_ln.toInt) ∧ (OPK f_rc o_rc e_ln.toInt) ∧ (r = o_r) ∧ (u = [(a_r, (oc4 a_tk a_rh a_rs a_rc o_ln o_pa o_at e_fp)), (a_tk, (oc8 a_kd a_nm a_pl)), (a_kd, (arI G 401 f_kd)), (a_nm, (arI G 401 f_nm)), (a_rc, (arI G 400 o_rc))]))) (g5_B G (va_A [(a_r, (oc4 a_tk a_rh a_rs a_rc e_ln e_pa e_at e_fp)), (a_tk, (oc8 a_kd a_nm a_pl)), (a_kd, (arI G 401 f_kd)), (a_nm, (arI G 401 f_nm)), (a_rc, (arI G 400 f_rc))] sz)) (va_A [(a_r, (oc4 a_tk a_rh a_rs a_rc e_ln e_pa e_at e_fp)), (a_tk, (oc8 a_kd a_nm a_pl)), (a_kd, (arI G 401 f_kd)), (a_nm, (arI G 401 f_nm)), (a_rc, (arI G 400 f_rc))] sz)) 0 0 (va_A [(a_r, (oc4 a_tk a_rh a_rs a_rc e_ln e_pa e_at e_fp)), (a_tk, (oc8 a_kd a_nm a_pl)), (a_kd, (arI G 401 f_kd)), (a_nm, (arI G 401 f_nm)), (a_rc, (arI G 400 f_rc))] sz) := by
  refine Met.ofW (cc := cX4_readPart) (maxL := 4) (ret := (some .boolean)) (by decide) rfl ?_
  intro p e s m args below meth c s₁ B hml hv
  obtain ⟨rfl, hsz, hP, hK, hD0, hN, hT⟩ := hv
  have hx := B.exec
  have hb := B.bytes
  have hr := B.returns
  have hts : ∀ w ∈ tblG, w.before _ s = true := fun w h => atoms_spec (ws := (wsG yX4_readPart cX4_readPart 4 (some .boolean))) B.pre w (List.mem_cons_of_mem _ h)
  have hown : s.vm.findClass RX4 = some m.cls := findClass_of_methodNamed B.named
  have hlocks := B.notSynchronized
  subst hsz
  have hD := hD0.self (sz := s.heap.size)
  generalize hAe : va_A [(a_r, (oc4 a_tk a_rh a_rs a_rc e_ln e_pa e_at e_fp)), (a_tk, (oc8 a_kd a_nm a_pl)), (a_kd, (arI G 401 f_kd)), (a_nm, (arI G 401 f_nm)), (a_rc, (arI G 400 f_rc))] s.heap.size = A at hD hT ⊢
  have hA : ∀ q : Nat, s.heap.size ≤ q → A q := fun q h => by rw [← hAe]; exact Or.inr h
  have hS : va_S A s.heap s.heap [] := va_S.rf
  have hP : va_P G.1 vwCl [(a_r, (oc4 a_tk a_rh a_rs a_rc e_ln e_pa e_at e_fp)), (a_tk, (oc8 a_kd a_nm a_pl)), (a_kd, (arI G 401 f_kd)), (a_nm, (arI G 401 f_nm)), (a_rc, (arI G 400 f_rc))] s.heap := hP
  have hl := lv_entry ([.ref a_r, .int p_d]) (n := 4) (Nat.le_of_ble_eq_true rfl)
  rw [lg_entry_eq]
  generalize (lg_sl ([.ref a_r, .int p_d]) ++ List.replicate (4 - (lg_sl ([.ref a_r, .int p_d])).length) Slot.unset).toArray = ls at hl ⊢
  have hl : lv_has ls 4 [(0, .ref a_r), (1, .int p_d)] := hl
  refine lv_aload_n hx hb dX4_readPart_0 rfl (lv_at hl 0 rfl) ?_
  refine lv_bipush (v := 91) hx hb dX4_readPart_1 (by decide) ?_
  obtain ⟨hPc, hDc, hFc⟩ := g5_sub3 (wc := [(a_r, (oc4 a_tk a_rh a_rs a_rc e_ln e_pa e_at e_fp)), (a_tk, (oc8 a_kd a_nm a_pl)), (a_kd, (arI G 401 f_kd))]) hP hD hS hA [0, 1, 2] (by decide) rfl
  refine va_calli (va_runV (As := [.int 91]) (rest := []) ⟨hx, hb, hml, hown, hts⟩ (r_isNext l G a_r a_tk a_kd a_rh a_rs a_rc a_nm a_pl s.heap.size e_ln e_pa e_at e_fp 91 f_kd h_e_ln h_e_pa h_e_at) (cwV 1 hts gV_X4_49 rfl rfl rfl hv_X4_isNext ⟨by simp only [headSpec]; omega, by simp only [headSpec]; omega⟩) (g5_preV hPc hK hDc hN hT hS hFc (ci := 4) (q0 := 0) rfl rfl) rfl rfl hl.1 rfl (lv_room (Nat.le_of_ble_eq_true rfl)) dX4_readPart_3 ⟨Nat.le_of_ble_eq_true rfl, Nat.le_of_ble_eq_true rfl⟩) hS (fun q _ h => hFc q h) hFc (fun r u t H1 locs ht hvm hw hB hz1 hk1 hS => ?_)
  obtain ⟨hP1, hD1⟩ := hB
  rw [ht] at hP1
  rcases hw with ⟨i_1, i_2, rfl, rfl⟩ | ⟨rfl, rfl⟩
  ·
    have i_1 : e_at.toInt ≤ 400 := i_1
    have i_2 : f_kd e_at.toNatClampNeg = (91 : Int32) := i_2
    obtain ⟨hP, hD⟩ := va_join (wr := [(a_nm, (arI G 401 f_nm)), (a_rc, (arI G 400 f_rc))]) hP hD [0, 1, 2] [3, 4] rfl rfl (by decide) (by decide) hk1 hFc hP1 hD1
    generalize H1 = H at hP hS ⊢
    refine g5_rs [(a_nm, (arI G 401 f_nm)), (a_rc, (arI G 400 f_rc)), (a_r, (oc4 a_tk a_rh a_rs a_rc e_ln e_pa e_at e_fp)), (a_tk, (oc8 a_kd a_nm a_pl)), (a_kd, (arI G 401 f_kd))] hP hD (fun hP hD => ?_)
    refine lv_if_eq (tgt := 49) hx hb dX4_readPart_6 (by decide) (fun c_3 => ?_) (fun c_3 => ?_)
    ·
      exact absurd c_3 (by decide)
    ·
      refine lv_iload_n hx hb dX4_readPart_9 rfl (lv_at hl 1 rfl) ?_
      refine lv_bipush (v := 8) hx hb dX4_readPart_10 (by decide) ?_
      refine lv_icmp_ge (tgt := 47) hx hb dX4_readPart_12 (by decide) (fun c_4 => ?_) (fun c_4 => ?_)
      ·
        have i_4 : p_d.toInt ≥ 8 := by have z := g5_ge (a := p_d.toInt) (b := 8) (by rfl) (by decide) c_4; omega
        refine lv_iconst (v := 0) hx hb dX4_readPart_47 (by decide) ?_
        exact W.zret (v := 0) hx hb hr rfl (fun t ht hW => ⟨⟨0, [(a_r, (oc4 a_tk a_rh a_rs a_rc e_ln e_pa e_at e_fp)), (a_tk, (oc8 a_kd a_nm a_pl)), (a_kd, (arI G 401 f_kd)), (a_nm, (arI G 401 f_nm)), (a_rc, (arI G 400 f_rc))], rfl, ⟨0, e_ln, e_pa, e_at, f_rc, ⟨by have zc_o_r : (0 : Int32).toInt = 0 := (by decide); omega, by have zc_o_r : (0 : Int32).toInt = 0 := (by decide); omega⟩, ⟨by omega, by omega⟩, h_e_at, h_e_pa, e_cd, opk_refl, rfl, rfl⟩, by rw [ht]; exact hP.sub [2, 3, 4, 0, 1] rfl, hD.sub [2, 3, 4, 0, 1] (by decide) rfl⟩, hS.F ht⟩) hS.2.2 dX4_readPart_48
      ·
        have i_4 : p_d.toInt < 8 := by have z := g5_geN (a := p_d.toInt) (b := 8) (by rfl) (by decide) c_4; omega
        refine lv_aload_n hx hb dX4_readPart_15 rfl (lv_at hl 0 rfl) ?_
        refine lv_bipush (v := 91) hx hb dX4_readPart_16 (by decide) ?_
        obtain ⟨hPc, hDc, hFc⟩ := g5_sub3 (wc := [(a_r, (oc4 a_tk a_rh a_rs a_rc e_ln e_pa e_at e_fp)), (a_tk, (oc8 a_kd a_nm a_pl)), (a_kd, (arI G 401 f_kd))]) hP hD hS hA [2, 3, 4] (by decide) rfl
        refine va_calli (va_runV (As := [.int 91]) (rest := []) ⟨hx, hb, hml, hown, hts⟩ (r_passed l G a_r a_tk a_kd a_rh a_rs a_rc a_nm a_pl H.size e_ln e_pa e_at e_fp 91 f_kd h_e_ln h_e_pa h_e_at) (cwV 1 hts gV_X4_63 rfl rfl rfl hv_X4_passed ⟨by simp only [headSpec]; omega, by simp only [headSpec]; omega⟩) (g5_preV hPc hK hDc hN hT hS hFc (ci := 4) (q0 := 0) rfl rfl) rfl rfl hl.1 rfl (lv_room (Nat.le_of_ble_eq_true rfl)) dX4_readPart_18 ⟨Nat.le_of_ble_eq_true rfl, Nat.le_of_ble_eq_true rfl⟩) hS (fun q _ h => hFc q h) hFc (fun r u t H1 locs ht hvm hw hB hz1 hk1 hS => ?_)
        obtain ⟨hP1, hD1⟩ := hB
        rw [ht] at hP1
        obtain ⟨z7, z8, i_5, i_6, y9, rfl⟩ := hw
        have i_5 : 0 ≤ z7.toInt ∧ z7.toInt ≤ 1 := i_5
        have i_6 : 0 ≤ z8.toInt ∧ z8.toInt ≤ 401 := i_6
        obtain ⟨hP, hD⟩ := va_join (wr := [(a_nm, (arI G 401 f_nm)), (a_rc, (arI G 400 f_rc))]) hP hD [2, 3, 4] [0, 1] rfl rfl (by decide) (by decide) hk1 hFc hP1 hD1
        generalize H1 = H at hP hS ⊢
        refine g5_rs [(a_nm, (arI G 401 f_nm)), (a_rc, (arI G 400 f_rc)), (a_r, (oc4 a_tk a_rh a_rs a_rc e_ln e_pa z8 e_fp)), (a_tk, (oc8 a_kd a_nm a_pl)), (a_kd, (arI G 401 f_kd))] hP hD (fun hP hD => ?_)
        refine g5_ti (v := z7) y9 ?_
        refine lv_if_eq (tgt := 47) hx hb dX4_readPart_21 (by decide) (fun c_10 => ?_) (fun c_10 => ?_)
        ·
          have i_10 : z7.toInt = 0 := by have z := g5_eq (a := z7.toInt) (b := 0) (by rfl) (by decide) c_10; omega
          refine lv_iconst (v := 0) hx hb dX4_readPart_47 (by decide) ?_
          exact W.zret (v := 0) hx hb hr rfl (fun t ht hW => ⟨⟨0, [(a_r, (oc4 a_tk a_rh a_rs a_rc e_ln e_pa z8 e_fp)), (a_tk, (oc8 a_kd a_nm a_pl)), (a_kd, (arI G 401 f_kd)), (a_nm, (arI G 401 f_nm)), (a_rc, (arI G 400 f_rc))], rfl, ⟨0, e_ln, e_pa, z8, f_rc, ⟨by have zc_o_r : (0 : Int32).toInt = 0 := (by decide); omega, by have zc_o_r : (0 : Int32).toInt = 0 := (by decide); omega⟩, ⟨by omega, by omega⟩, i_6, h_e_pa, e_cd, opk_refl, rfl, rfl⟩, by rw [ht]; exact hP.sub [2, 3, 4, 0, 1] rfl, hD.sub [2, 3, 4, 0, 1] (by decide) rfl⟩, hS.F ht⟩) hS.2.2 dX4_readPart_48
        ·
          have n_10 : gNe (z7.toInt) (0) := by have z := g5_eqN (a := z7.toInt) (b := 0) (by rfl) (by decide) c_10; unfold gNe; omega
          have i_10 : z7.toInt ≥ 1 := by have z := g5_eqN (a := z7.toInt) (b := 0) (by rfl) (by decide) c_10; omega
          refine lv_aload_n hx hb dX4_readPart_24 rfl (lv_at hl 0 rfl) ?_
          refine lv_iload_n hx hb dX4_readPart_25 rfl (lv_at hl 1 rfl) ?_
          refine lv_iconst (v := 1) hx hb dX4_readPart_26 (by decide) ?_
          refine lv_iadd hx hb dX4_readPart_27 ?_
          have t_11 : (p_d + 1).toInt = p_d.toInt + 1 := g5_iadd (a := p_d.toInt) (b := 1) (by rfl) (by decide) (by omega) (by omega)
          obtain ⟨hPc, hDc, hFc⟩ := g5_sub3 (wc := [(a_r, (oc4 a_tk a_rh a_rs a_rc e_ln e_pa z8 e_fp)), (a_tk, (oc8 a_kd a_nm a_pl)), (a_kd, (arI G 401 f_kd)), (a_nm, (arI G 401 f_nm)), (a_rc, (arI G 400 f_rc))]) hP hD hS hA [2, 3, 4, 0, 1] (by decide) rfl
          refine va_calli (va_runV (As := [.int (p_d + 1)]) (rest := []) ⟨hx, hb, hml, hown, hts⟩ ((h_sum (p_d + 1) (by omega) (by omega)) l G a_r a_tk a_kd a_nm a_rc a_rh a_rs a_pl H.size e_ln e_pa z8 e_fp f_kd f_nm f_rc h_e_ln h_e_pa i_6 (e_tk) (e_cd)) (cwV 1 hts gV_X4_73 rfl rfl rfl hv_X4_readSum ⟨by simp only [headSpec]; omega, by simp only [headSpec]; omega⟩) (g5_preV hPc hK hDc hN hT hS hFc (ci := 4) (q0 := 0) rfl rfl) rfl rfl hl.1 rfl (lv_room (Nat.le_of_ble_eq_true rfl)) dX4_readPart_28 ⟨Nat.le_of_ble_eq_true rfl, Nat.le_of_ble_eq_true rfl⟩) hS (fun q _ h => hFc q h) hFc (fun r u t H1 locs ht hvm hw hB hz1 hk1 hS => ?_)
          obtain ⟨hP1, hD1⟩ := hB
          rw [ht] at hP1
          obtain ⟨z18, z19, z20, z21, z22, i_12, i_13, i_14, i_15, i_16, i_17, y23, rfl⟩ := hw
          have i_12 : 0 ≤ z18.toInt ∧ z18.toInt ≤ 1 := i_12
          have i_13 : e_ln.toInt ≤ z19.toInt ∧ z19.toInt ≤ 400 := i_13
          have i_14 : 0 ≤ z21.toInt ∧ z21.toInt ≤ 401 := i_14
          have i_15 : 0 ≤ z20.toInt ∧ z20.toInt ≤ 50 := i_15
          have i_16 : CDI z22 z19.toInt := i_16
          have i_17 : OPK f_rc z22 e_ln.toInt := i_17
          obtain ⟨hP, hD⟩ := va_join (wr := []) hP hD [2, 3, 4, 0, 1] [] rfl rfl (by decide) (by decide) hk1 hFc hP1 hD1
          generalize H1 = H at hP hS ⊢
          refine g5_rs [(a_r, (oc4 a_tk a_rh a_rs a_rc z19 z20 z21 e_fp)), (a_tk, (oc8 a_kd a_nm a_pl)), (a_kd, (arI G 401 f_kd)), (a_nm, (arI G 401 f_nm)), (a_rc, (arI G 400 z22))] hP hD (fun hP hD => ?_)
          refine g5_ti (v := z18) y23 ?_
          refine lv_if_eq (tgt := 47) hx hb dX4_readPart_31 (by decide) (fun c_24 => ?_) (fun c_24 => ?_)
          ·
            have i_24 : z18.toInt = 0 := by have z := g5_eq (a := z18.toInt) (b := 0) (by rfl) (by decide) c_24; omega
            refine lv_iconst (v := 0) hx hb dX4_readPart_47 (by decide) ?_
            exact W.zret (v := 0) hx hb hr rfl (fun t ht hW => ⟨⟨0, [(a_r, (oc4 a_tk a_rh a_rs a_rc z19 z20 z21 e_fp)), (a_tk, (oc8 a_kd a_nm a_pl)), (a_kd, (arI G 401 f_kd)), (a_nm, (arI G 401 f_nm)), (a_rc, (arI G 400 z22))], rfl, ⟨0, z19, z20, z21, z22, ⟨by have zc_o_r : (0 : Int32).toInt = 0 := (by decide); omega, by have zc_o_r : (0 : Int32).toInt = 0 := (by decide); omega⟩, ⟨by omega, by omega⟩, i_14, i_15, i_16, i_17, rfl, rfl⟩, by rw [ht]; exact hP.sub [0, 1, 2, 3, 4] rfl, hD.sub [0, 1, 2, 3, 4] (by decide) rfl⟩, hS.F ht⟩) hS.2.2 dX4_readPart_48
          ·
            have n_24 : gNe (z18.toInt) (0) := by have z := g5_eqN (a := z18.toInt) (b := 0) (by rfl) (by decide) c_24; unfold gNe; omega
            have i_24 : z18.toInt ≥ 1 := by have z := g5_eqN (a := z18.toInt) (b := 0) (by rfl) (by decide) c_24; omega
            refine lv_aload_n hx hb dX4_readPart_34 rfl (lv_at hl 0 rfl) ?_
            refine lv_bipush (v := 93) hx hb dX4_readPart_35 (by decide) ?_
            obtain ⟨hPc, hDc, hFc⟩ := g5_sub3 (wc := [(a_r, (oc4 a_tk a_rh a_rs a_rc z19 z20 z21 e_fp)), (a_tk, (oc8 a_kd a_nm a_pl)), (a_kd, (arI G 401 f_kd))]) hP hD hS hA [0, 1, 2] (by decide) rfl
            refine va_calli (va_runV (As := [.int 93]) (rest := []) ⟨hx, hb, hml, hown, hts⟩ (r_passed l G a_r a_tk a_kd a_rh a_rs a_rc a_nm a_pl H.size z19 z20 z21 e_fp 93 f_kd ⟨by omega, by omega⟩ i_15 i_14) (cwV 1 hts gV_X4_63 rfl rfl rfl hv_X4_passed ⟨by simp only [headSpec]; omega, by simp only [headSpec]; omega⟩) (g5_preV hPc hK hDc hN hT hS hFc (ci := 4) (q0 := 0) rfl rfl) rfl rfl hl.1 rfl (lv_room (Nat.le_of_ble_eq_true rfl)) dX4_readPart_37 ⟨Nat.le_of_ble_eq_true rfl, Nat.le_of_ble_eq_true rfl⟩) hS (fun q _ h => hFc q h) hFc (fun r u t H1 locs ht hvm hw hB hz1 hk1 hS => ?_)
            obtain ⟨hP1, hD1⟩ := hB
            rw [ht] at hP1
            obtain ⟨z27, z28, i_25, i_26, y29, rfl⟩ := hw
            have i_25 : 0 ≤ z27.toInt ∧ z27.toInt ≤ 1 := i_25
            have i_26 : 0 ≤ z28.toInt ∧ z28.toInt ≤ 401 := i_26
            obtain ⟨hP, hD⟩ := va_join (wr := [(a_nm, (arI G 401 f_nm)), (a_rc, (arI G 400 z22))]) hP hD [0, 1, 2] [3, 4] rfl rfl (by decide) (by decide) hk1 hFc hP1 hD1
            generalize H1 = H at hP hS ⊢
            refine g5_rs [(a_nm, (arI G 401 f_nm)), (a_rc, (arI G 400 z22)), (a_r, (oc4 a_tk a_rh a_rs a_rc z19 z20 z28 e_fp)), (a_tk, (oc8 a_kd a_nm a_pl)), (a_kd, (arI G 401 f_kd))] hP hD (fun hP hD => ?_)
            refine g5_ti (v := z27) y29 ?_
            refine lv_if_eq (tgt := 47) hx hb dX4_readPart_40 (by decide) (fun c_30 => ?_) (fun c_30 => ?_)
            ·
              have i_30 : z27.toInt = 0 := by have z := g5_eq (a := z27.toInt) (b := 0) (by rfl) (by decide) c_30; omega
              refine lv_iconst (v := 0) hx hb dX4_readPart_47 (by decide) ?_
              exact W.zret (v := 0) hx hb hr rfl (fun t ht hW => ⟨⟨0, [(a_r, (oc4 a_tk a_rh a_rs a_rc z19 z20 z28 e_fp)), (a_tk, (oc8 a_kd a_nm a_pl)), (a_kd, (arI G 401 f_kd)), (a_nm, (arI G 401 f_nm)), (a_rc, (arI G 400 z22))], rfl, ⟨0, z19, z20, z28, z22, ⟨by have zc_o_r : (0 : Int32).toInt = 0 := (by decide); omega, by have zc_o_r : (0 : Int32).toInt = 0 := (by decide); omega⟩, ⟨by omega, by omega⟩, i_26, i_15, i_16, i_17, rfl, rfl⟩, by rw [ht]; exact hP.sub [2, 3, 4, 0, 1] rfl, hD.sub [2, 3, 4, 0, 1] (by decide) rfl⟩, hS.F ht⟩) hS.2.2 dX4_readPart_48
            ·
              have n_30 : gNe (z27.toInt) (0) := by have z := g5_eqN (a := z27.toInt) (b := 0) (by rfl) (by decide) c_30; unfold gNe; omega
              have i_30 : z27.toInt ≥ 1 := by have z := g5_eqN (a := z27.toInt) (b := 0) (by rfl) (by decide) c_30; omega
              refine lv_iconst (v := 1) hx hb dX4_readPart_43 (by decide) ?_
              refine lv_goto (tgt := 48) hx hb dX4_readPart_44 (by decide) ?_
              exact W.zret (v := 1) hx hb hr rfl (fun t ht hW => ⟨⟨1, [(a_r, (oc4 a_tk a_rh a_rs a_rc z19 z20 z28 e_fp)), (a_tk, (oc8 a_kd a_nm a_pl)), (a_kd, (arI G 401 f_kd)), (a_nm, (arI G 401 f_nm)), (a_rc, (arI G 400 z22))], rfl, ⟨1, z19, z20, z28, z22, ⟨by have zc_o_r : (1 : Int32).toInt = 1 := (by decide); omega, by have zc_o_r : (1 : Int32).toInt = 1 := (by decide); omega⟩, ⟨by omega, by omega⟩, i_26, i_15, i_16, i_17, rfl, rfl⟩, by rw [ht]; exact hP.sub [2, 3, 4, 0, 1] rfl, hD.sub [2, 3, 4, 0, 1] (by decide) rfl⟩, hS.F ht⟩) hS.2.2 dX4_readPart_48
  ·
    obtain ⟨hP, hD⟩ := va_join (wr := [(a_nm, (arI G 401 f_nm)), (a_rc, (arI G 400 f_rc))]) hP hD [0, 1, 2] [3, 4] rfl rfl (by decide) (by decide) hk1 hFc hP1 hD1
    generalize H1 = H at hP hS ⊢
    refine g5_rs [(a_nm, (arI G 401 f_nm)), (a_rc, (arI G 400 f_rc)), (a_r, (oc4 a_tk a_rh a_rs a_rc e_ln e_pa e_at e_fp)), (a_tk, (oc8 a_kd a_nm a_pl)), (a_kd, (arI G 401 f_kd))] hP hD (fun hP hD => ?_)
    refine lv_if_eq (tgt := 49) hx hb dX4_readPart_6 (by decide) (fun c_31 => ?_) (fun c_31 => ?_)
    ·
      refine lv_aload_n hx hb dX4_readPart_49 rfl (lv_at hl 0 rfl) ?_
      refine va_get (D := G.1) (ci := 4) (v := .ref a_tk) (C := RX4) (T := TX4) (N := 8) hx hb hts inG_X4 hown hK hP 2 rfl rfl 0 (by decide) (hts _ fl_X4_12) (fun _ h9 => h9) rfl dX4_readPart_50 ?_
      refine lv_aload_n hx hb dX4_readPart_53 rfl (lv_at hl 0 rfl) ?_
      refine va_get (D := G.1) (ci := 4) (v := .int e_at) (C := RX4) (T := TX4) (N := 8) hx hb hts inG_X4 hown hK hP 2 rfl rfl 6 (by decide) (hts _ fl_X4_42) (fun _ h9 => h9) rfl dX4_readPart_54 ?_
      obtain ⟨hPc, hDc, hFc⟩ := g5_sub3 (wc := [(a_tk, (oc8 a_kd a_nm a_pl)), (a_kd, (arI G 401 f_kd))]) hP hD hS hA [3, 4] (by decide) rfl
      refine va_calli (va_runV (As := [.int e_at]) (rest := []) ⟨hx, hb, hml, hown, hts⟩ (k_kindAt l G a_tk a_kd a_nm a_pl H.size e_at f_kd h_e_at) (cwV 1 hts gV_X4_69 rfl rfl rfl hv_X8_kindAt ⟨by simp only [headSpec]; omega, by simp only [headSpec]; omega⟩) (g5_preV hPc hK hDc hN hT hS hFc (ci := 8) (q0 := 0) rfl rfl) rfl rfl hl.1 rfl (lv_room (Nat.le_of_ble_eq_true rfl)) dX4_readPart_57 ⟨Nat.le_of_ble_eq_true rfl, Nat.le_of_ble_eq_true rfl⟩) hS (fun q _ h => hFc q h) hFc (fun r u t H1 locs ht hvm hw hB hz1 hk1 hS => ?_)
      obtain ⟨hP1, hD1⟩ := hB
      rw [ht] at hP1
      rcases hw with ⟨z33, i_32, y34, rfl⟩ | ⟨rfl, rfl⟩
      ·
        have i_32 : e_at.toInt ≤ 400 := i_32
        obtain ⟨hP, hD⟩ := va_join (wr := [(a_nm, (arI G 401 f_nm)), (a_rc, (arI G 400 f_rc)), (a_r, (oc4 a_tk a_rh a_rs a_rc e_ln e_pa e_at e_fp))]) hP hD [3, 4] [0, 1, 2] rfl rfl (by decide) (by decide) hk1 hFc hP1 hD1
        generalize H1 = H at hP hS ⊢
        refine g5_rs [(a_nm, (arI G 401 f_nm)), (a_rc, (arI G 400 f_rc)), (a_r, (oc4 a_tk a_rh a_rs a_rc e_ln e_pa e_at e_fp)), (a_tk, (oc8 a_kd a_nm a_pl)), (a_kd, (arI G 401 f_kd))] hP hD (fun hP hD => ?_)
        refine g5_ti (v := z33) y34 ?_
        refine lv_sipush (v := 256) hx hb dX4_readPart_60 (by decide) ?_
        refine lv_isub hx hb dX4_readPart_63 ?_
        refine lv_bipush (v := 8) hx hb dX4_readPart_64 (by decide) ?_
        refine lv_isub hx hb dX4_readPart_66 ?_
        refine lv_istore_n (lv' := [(2, .int ((z33 - 256) - 8)), (0, .ref a_r), (1, .int p_d)]) hx hb dX4_readPart_67 rfl hl (by decide) rfl (fun ls hl => ?_)
        refine lv_iload_n hx hb dX4_readPart_68 rfl (lv_at hl 0 rfl) ?_
        refine lv_if_lt (tgt := 82) hx hb dX4_readPart_69 (by decide) (fun c_35 => ?_) (fun c_35 => ?_)
        ·
          have i_35 : ((z33 - 256) - 8).toInt < 0 := by have z := g5_lt (a := ((z33 - 256) - 8).toInt) (b := 0) (by rfl) (by decide) c_35; omega
          refine lv_iconst (v := 0) hx hb dX4_readPart_82 (by decide) ?_
          refine lv_istore_n (lv' := [(3, .int 0), (2, .int ((z33 - 256) - 8)), (0, .ref a_r), (1, .int p_d)]) hx hb dX4_readPart_83 rfl hl (by decide) rfl (fun ls hl => ?_)
          refine lv_iload_n hx hb dX4_readPart_84 rfl (lv_at hl 0 rfl) ?_
          refine lv_if_ne (tgt := 98) hx hb dX4_readPart_85 (by decide) (fun c_36 => ?_) (fun c_36 => ?_)
          ·
            exact absurd c_36 (by decide)
          ·
            refine lv_aload_n hx hb dX4_readPart_88 rfl (lv_at hl 2 rfl) ?_
            refine lv_sipush (v := 300) hx hb dX4_readPart_89 (by decide) ?_
            obtain ⟨hPc, hDc, hFc⟩ := g5_sub3 (wc := [(a_r, (oc4 a_tk a_rh a_rs a_rc e_ln e_pa e_at e_fp)), (a_tk, (oc8 a_kd a_nm a_pl)), (a_kd, (arI G 401 f_kd))]) hP hD hS hA [2, 3, 4] (by decide) rfl
            refine va_calli (va_runV (As := [.int 300]) (rest := []) ⟨hx, hb, hml, hown, hts⟩ (r_isNext l G a_r a_tk a_kd a_rh a_rs a_rc a_nm a_pl H.size e_ln e_pa e_at e_fp 300 f_kd h_e_ln h_e_pa h_e_at) (cwV 1 hts gV_X4_49 rfl rfl rfl hv_X4_isNext ⟨by simp only [headSpec]; omega, by simp only [headSpec]; omega⟩) (g5_preV hPc hK hDc hN hT hS hFc (ci := 4) (q0 := 0) rfl rfl) rfl rfl hl.1 rfl (lv_room (Nat.le_of_ble_eq_true rfl)) dX4_readPart_92 ⟨Nat.le_of_ble_eq_true rfl, Nat.le_of_ble_eq_true rfl⟩) hS (fun q _ h => hFc q h) hFc (fun r u t H1 locs ht hvm hw hB hz1 hk1 hS => ?_)
            obtain ⟨hP1, hD1⟩ := hB
            rw [ht] at hP1
            rcases hw with ⟨i_37, i_38, rfl, rfl⟩ | ⟨rfl, rfl⟩
            ·
              have i_37 : e_at.toInt ≤ 400 := i_37
              have i_38 : f_kd e_at.toNatClampNeg = (300 : Int32) := i_38
              obtain ⟨hP, hD⟩ := va_join (wr := [(a_nm, (arI G 401 f_nm)), (a_rc, (arI G 400 f_rc))]) hP hD [2, 3, 4] [0, 1] rfl rfl (by decide) (by decide) hk1 hFc hP1 hD1
              generalize H1 = H at hP hS ⊢
              refine g5_rs [(a_nm, (arI G 401 f_nm)), (a_rc, (arI G 400 f_rc)), (a_r, (oc4 a_tk a_rh a_rs a_rc e_ln e_pa e_at e_fp)), (a_tk, (oc8 a_kd a_nm a_pl)), (a_kd, (arI G 401 f_kd))] hP hD (fun hP hD => ?_)
              refine lv_if_eq (tgt := 107) hx hb dX4_readPart_95 (by decide) (fun c_39 => ?_) (fun c_39 => ?_)
              ·
                exact absurd c_39 (by decide)
              ·
                refine lv_aload_n hx hb dX4_readPart_98 rfl (lv_at hl 2 rfl) ?_
                refine va_get (D := G.1) (ci := 4) (v := .int e_pa) (C := RX4) (T := TX4) (N := 8) hx hb hts inG_X4 hown hK hP 2 rfl rfl 5 (by decide) (hts _ fl_X4_39) (fun _ h9 => h9) rfl dX4_readPart_99 ?_
                refine lv_bipush (v := 50) hx hb dX4_readPart_102 (by decide) ?_
                refine lv_icmp_lt (tgt := 109) hx hb dX4_readPart_104 (by decide) (fun c_40 => ?_) (fun c_40 => ?_)
                ·
                  have i_40 : e_pa.toInt < 50 := by have z := g5_lt (a := e_pa.toInt) (b := 50) (by rfl) (by decide) c_40; omega
                  refine lv_aload_n hx hb dX4_readPart_109 rfl (lv_at hl 2 rfl) ?_
                  refine lv_iload_n hx hb dX4_readPart_110 rfl (lv_at hl 0 rfl) ?_
                  refine lv_if_eq (tgt := 118) hx hb dX4_readPart_111 (by decide) (fun c_41 => ?_) (fun c_41 => ?_)
                  ·
                    refine lv_iconst (v := 0) hx hb dX4_readPart_118 (by decide) ?_
                    refine lv_iload_n hx hb dX4_readPart_119 rfl (lv_at hl 0 rfl) ?_
                    refine lv_if_eq (tgt := 127) hx hb dX4_readPart_120 (by decide) (fun c_42 => ?_) (fun c_42 => ?_)
                    ·
                      refine lv_aload_n hx hb dX4_readPart_127 rfl (lv_at hl 2 rfl) ?_
                      refine va_get (D := G.1) (ci := 4) (v := .ref a_tk) (C := RX4) (T := TX4) (N := 8) hx hb hts inG_X4 hown hK hP 2 rfl rfl 0 (by decide) (hts _ fl_X4_12) (fun _ h9 => h9) rfl dX4_readPart_128 ?_
                      refine va_get (D := G.1) (ci := 8) (v := .ref a_nm) (C := RX8) (T := TX8) (N := 3) hx hb hts inG_X8 hown hK hP 3 rfl rfl 1 (by decide) (hts _ fl_X4_93) (fun _ h9 => h9) rfl dX4_readPart_131 ?_
                      refine lv_aload_n hx hb dX4_readPart_134 rfl (lv_at hl 2 rfl) ?_
                      refine va_get (D := G.1) (ci := 4) (v := .int e_at) (C := RX4) (T := TX4) (N := 8) hx hb hts inG_X4 hown hK hP 2 rfl rfl 6 (by decide) (hts _ fl_X4_42) (fun _ h9 => h9) rfl dX4_readPart_135 ?_
                      refine va_iald hx hb hK hP 0 0 rfl rfl (i := e_at) (vp_in_iff.mpr ⟨by omega, by omega⟩) dX4_readPart_138 ?_
                      obtain ⟨hPc, hDc, hFc⟩ := g5_sub3 (wc := [(a_r, (oc4 a_tk a_rh a_rs a_rc e_ln e_pa e_at e_fp)), (a_rc, (arI G 400 f_rc))]) hP hD hS hA [2, 1] (by decide) rfl
                      refine va_calli (va_runV (As := [.int 0, .int (f_nm e_at.toNatClampNeg)]) (rest := []) ⟨hx, hb, hml, hown, hts⟩ (r_emit l G a_r a_rc a_tk a_rh a_rs H.size e_ln e_pa e_at e_fp 0 (f_nm e_at.toNatClampNeg) f_rc h_e_ln h_e_pa h_e_at (e_cd) (wok_num (toki_num e_tk i_38))) (cwV 2 hts gV_X4_79 rfl rfl rfl hv_X4_emit ⟨by simp only [headSpec]; omega, by simp only [headSpec]; omega⟩) (g5_preV hPc hK hDc hN hT hS hFc (ci := 4) (q0 := 0) rfl rfl) rfl rfl hl.1 rfl (lv_room (Nat.le_of_ble_eq_true rfl)) dX4_readPart_139 ⟨Nat.le_of_ble_eq_true rfl, Nat.le_of_ble_eq_true rfl⟩) hS (fun q _ h => hFc q h) hFc (fun r u t H1 locs ht hvm hw hB hz1 hk1 hS => ?_)
                      obtain ⟨hP1, hD1⟩ := hB
                      rw [ht] at hP1
                      obtain ⟨z48, z49, z50, i_43, i_44, i_45, i_46, i_47, y51, rfl⟩ := hw
                      have i_43 : -1 ≤ z48.toInt ∧ z48.toInt ≤ 399 := i_43
                      have i_44 : e_ln.toInt ≤ z49.toInt ∧ z49.toInt ≤ 400 := i_44
                      have i_45 : CDI z50 z49.toInt := i_45
                      have i_46 : OPK f_rc z50 e_ln.toInt := i_46
                      have i_47 : 0 ≤ z48.toInt → z48.toInt < z49.toInt ∧ z50 z48.toNatClampNeg = (((0 : Int32) <<< (12 &&& 31)) ||| (f_nm e_at.toNatClampNeg)) := i_47
                      obtain ⟨hP, hD⟩ := va_join (wr := [(a_nm, (arI G 401 f_nm)), (a_tk, (oc8 a_kd a_nm a_pl)), (a_kd, (arI G 401 f_kd))]) hP hD [2, 1] [0, 3, 4] rfl rfl (by decide) (by decide) hk1 hFc hP1 hD1
                      generalize H1 = H at hP hS ⊢
                      refine g5_rs [(a_nm, (arI G 401 f_nm)), (a_tk, (oc8 a_kd a_nm a_pl)), (a_kd, (arI G 401 f_kd)), (a_r, (oc4 a_tk a_rh a_rs a_rc z49 e_pa e_at e_fp)), (a_rc, (arI G 400 z50))] hP hD (fun hP hD => ?_)
                      refine g5_ti (v := z48) y51 ?_
                      refine lv_pop hx hb dX4_readPart_142 rfl ?_
                      refine lv_aload_n hx hb dX4_readPart_143 rfl (lv_at hl 2 rfl) ?_
                      refine lv_dup hx hb dX4_readPart_144 rfl ?_
                      refine va_get (D := G.1) (ci := 4) (v := .int e_pa) (C := RX4) (T := TX4) (N := 8) hx hb hts inG_X4 hown hK hP 3 rfl rfl 5 (by decide) (hts _ fl_X4_39) (fun _ h9 => h9) rfl dX4_readPart_145 ?_
                      refine lv_iconst (v := 1) hx hb dX4_readPart_148 (by decide) ?_
                      refine lv_iadd hx hb dX4_readPart_149 ?_
                      have t_52 : (e_pa + 1).toInt = e_pa.toInt + 1 := g5_iadd (a := e_pa.toInt) (b := 1) (by rfl) (by decide) (by omega) (by omega)
                      refine va_put (D := G.1) (ci := 4) (v := .int (e_pa + 1)) (ty := .int) (C := RX4) (T := TX4) (N := 8) hx hb hts inG_X4 tyX4 tyX4_ok nmX4 hown hK hP hD hS 3 rfl rfl 5 (by decide) (hts _ fl_X4_39) (fun _ h9 => h9) rfl (by decide +kernel) rfl rfl (Nat.le_of_ble_eq_true rfl) dX4_readPart_150 (fun H locs hP hD hS => ?_)
                      refine g5_rs [(a_nm, (arI G 401 f_nm)), (a_tk, (oc8 a_kd a_nm a_pl)), (a_kd, (arI G 401 f_kd)), (a_r, (oc4 a_tk a_rh a_rs a_rc z49 (e_pa + 1) e_at e_fp)), (a_rc, (arI G 400 z50))] hP hD (fun hP hD => ?_)
                      refine lv_aload_n hx hb dX4_readPart_153 rfl (lv_at hl 2 rfl) ?_
                      refine lv_dup hx hb dX4_readPart_154 rfl ?_
                      refine va_get (D := G.1) (ci := 4) (v := .int e_at) (C := RX4) (T := TX4) (N := 8) hx hb hts inG_X4 hown hK hP 3 rfl rfl 6 (by decide) (hts _ fl_X4_42) (fun _ h9 => h9) rfl dX4_readPart_155 ?_
                      refine lv_iconst (v := 1) hx hb dX4_readPart_158 (by decide) ?_
                      refine lv_iadd hx hb dX4_readPart_159 ?_
                      have t_53 : (e_at + 1).toInt = e_at.toInt + 1 := g5_iadd (a := e_at.toInt) (b := 1) (by rfl) (by decide) (by omega) (by omega)
                      refine va_put (D := G.1) (ci := 4) (v := .int (e_at + 1)) (ty := .int) (C := RX4) (T := TX4) (N := 8) hx hb hts inG_X4 tyX4 tyX4_ok nmX4 hown hK hP hD hS 3 rfl rfl 6 (by decide) (hts _ fl_X4_42) (fun _ h9 => h9) rfl (by decide +kernel) rfl rfl (Nat.le_of_ble_eq_true rfl) dX4_readPart_160 (fun H locs hP hD hS => ?_)
                      refine g5_rs [(a_nm, (arI G 401 f_nm)), (a_tk, (oc8 a_kd a_nm a_pl)), (a_kd, (arI G 401 f_kd)), (a_r, (oc4 a_tk a_rh a_rs a_rc z49 (e_pa + 1) (e_at + 1) e_fp)), (a_rc, (arI G 400 z50))] hP hD (fun hP hD => ?_)
                      refine lv_iconst (v := 1) hx hb dX4_readPart_163 (by decide) ?_
                      exact W.zret (v := 1) hx hb hr rfl (fun t ht hW => ⟨⟨1, [(a_r, (oc4 a_tk a_rh a_rs a_rc z49 (e_pa + 1) (e_at + 1) e_fp)), (a_tk, (oc8 a_kd a_nm a_pl)), (a_kd, (arI G 401 f_kd)), (a_nm, (arI G 401 f_nm)), (a_rc, (arI G 400 z50))], rfl, ⟨1, z49, (e_pa + 1), (e_at + 1), z50, ⟨by have zc_o_r : (1 : Int32).toInt = 1 := (by decide); omega, by have zc_o_r : (1 : Int32).toInt = 1 := (by decide); omega⟩, ⟨by omega, by omega⟩, ⟨by omega, by omega⟩, ⟨by omega, by omega⟩, i_45, i_46, rfl, rfl⟩, by rw [ht]; exact hP.sub [3, 1, 2, 0, 4] rfl, hD.sub [3, 1, 2, 0, 4] (by decide) rfl⟩, hS.F ht⟩) hS.2.2 dX4_readPart_164
                    ·
                      exact absurd c_42 (by decide)
                  ·
                    exact absurd c_41 (by decide)
                ·
                  have i_40 : e_pa.toInt ≥ 50 := by have z := g5_ltN (a := e_pa.toInt) (b := 50) (by rfl) (by decide) c_40; omega
                  refine lv_iconst (v := 0) hx hb dX4_readPart_107 (by decide) ?_
                  exact W.zret (v := 0) hx hb hr rfl (fun t ht hW => ⟨⟨0, [(a_r, (oc4 a_tk a_rh a_rs a_rc e_ln e_pa e_at e_fp)), (a_tk, (oc8 a_kd a_nm a_pl)), (a_kd, (arI G 401 f_kd)), (a_nm, (arI G 401 f_nm)), (a_rc, (arI G 400 f_rc))], rfl, ⟨0, e_ln, e_pa, e_at, f_rc, ⟨by have zc_o_r : (0 : Int32).toInt = 0 := (by decide); omega, by have zc_o_r : (0 : Int32).toInt = 0 := (by decide); omega⟩, ⟨by omega, by omega⟩, h_e_at, h_e_pa, e_cd, opk_refl, rfl, rfl⟩, by rw [ht]; exact hP.sub [2, 3, 4, 0, 1] rfl, hD.sub [2, 3, 4, 0, 1] (by decide) rfl⟩, hS.F ht⟩) hS.2.2 dX4_readPart_108
            ·
              obtain ⟨hP, hD⟩ := va_join (wr := [(a_nm, (arI G 401 f_nm)), (a_rc, (arI G 400 f_rc))]) hP hD [2, 3, 4] [0, 1] rfl rfl (by decide) (by decide) hk1 hFc hP1 hD1
              generalize H1 = H at hP hS ⊢
              refine g5_rs [(a_nm, (arI G 401 f_nm)), (a_rc, (arI G 400 f_rc)), (a_r, (oc4 a_tk a_rh a_rs a_rc e_ln e_pa e_at e_fp)), (a_tk, (oc8 a_kd a_nm a_pl)), (a_kd, (arI G 401 f_kd))] hP hD (fun hP hD => ?_)
              refine lv_if_eq (tgt := 107) hx hb dX4_readPart_95 (by decide) (fun c_54 => ?_) (fun c_54 => ?_)
              ·
                refine lv_iconst (v := 0) hx hb dX4_readPart_107 (by decide) ?_
                exact W.zret (v := 0) hx hb hr rfl (fun t ht hW => ⟨⟨0, [(a_r, (oc4 a_tk a_rh a_rs a_rc e_ln e_pa e_at e_fp)), (a_tk, (oc8 a_kd a_nm a_pl)), (a_kd, (arI G 401 f_kd)), (a_nm, (arI G 401 f_nm)), (a_rc, (arI G 400 f_rc))], rfl, ⟨0, e_ln, e_pa, e_at, f_rc, ⟨by have zc_o_r : (0 : Int32).toInt = 0 := (by decide); omega, by have zc_o_r : (0 : Int32).toInt = 0 := (by decide); omega⟩, ⟨by omega, by omega⟩, h_e_at, h_e_pa, e_cd, opk_refl, rfl, rfl⟩, by rw [ht]; exact hP.sub [2, 3, 4, 0, 1] rfl, hD.sub [2, 3, 4, 0, 1] (by decide) rfl⟩, hS.F ht⟩) hS.2.2 dX4_readPart_108
              ·
                exact absurd c_54 (by decide)
        ·
          have i_35 : ((z33 - 256) - 8).toInt ≥ 0 := by have z := g5_ltN (a := ((z33 - 256) - 8).toInt) (b := 0) (by rfl) (by decide) c_35; omega
          refine lv_iload_n hx hb dX4_readPart_72 rfl (lv_at hl 0 rfl) ?_
          refine lv_bipush (v := 8) hx hb dX4_readPart_73 (by decide) ?_
          refine lv_icmp_ge (tgt := 82) hx hb dX4_readPart_75 (by decide) (fun c_55 => ?_) (fun c_55 => ?_)
          ·
            have i_55 : ((z33 - 256) - 8).toInt ≥ 8 := by have z := g5_ge (a := ((z33 - 256) - 8).toInt) (b := 8) (by rfl) (by decide) c_55; omega
            refine lv_iconst (v := 0) hx hb dX4_readPart_82 (by decide) ?_
            refine lv_istore_n (lv' := [(3, .int 0), (2, .int ((z33 - 256) - 8)), (0, .ref a_r), (1, .int p_d)]) hx hb dX4_readPart_83 rfl hl (by decide) rfl (fun ls hl => ?_)
            refine lv_iload_n hx hb dX4_readPart_84 rfl (lv_at hl 0 rfl) ?_
            refine lv_if_ne (tgt := 98) hx hb dX4_readPart_85 (by decide) (fun c_56 => ?_) (fun c_56 => ?_)
            ·
              exact absurd c_56 (by decide)
            ·
              refine lv_aload_n hx hb dX4_readPart_88 rfl (lv_at hl 2 rfl) ?_
              refine lv_sipush (v := 300) hx hb dX4_readPart_89 (by decide) ?_
              obtain ⟨hPc, hDc, hFc⟩ := g5_sub3 (wc := [(a_r, (oc4 a_tk a_rh a_rs a_rc e_ln e_pa e_at e_fp)), (a_tk, (oc8 a_kd a_nm a_pl)), (a_kd, (arI G 401 f_kd))]) hP hD hS hA [2, 3, 4] (by decide) rfl
              refine va_calli (va_runV (As := [.int 300]) (rest := []) ⟨hx, hb, hml, hown, hts⟩ (r_isNext l G a_r a_tk a_kd a_rh a_rs a_rc a_nm a_pl H.size e_ln e_pa e_at e_fp 300 f_kd h_e_ln h_e_pa h_e_at) (cwV 1 hts gV_X4_49 rfl rfl rfl hv_X4_isNext ⟨by simp only [headSpec]; omega, by simp only [headSpec]; omega⟩) (g5_preV hPc hK hDc hN hT hS hFc (ci := 4) (q0 := 0) rfl rfl) rfl rfl hl.1 rfl (lv_room (Nat.le_of_ble_eq_true rfl)) dX4_readPart_92 ⟨Nat.le_of_ble_eq_true rfl, Nat.le_of_ble_eq_true rfl⟩) hS (fun q _ h => hFc q h) hFc (fun r u t H1 locs ht hvm hw hB hz1 hk1 hS => ?_)
              obtain ⟨hP1, hD1⟩ := hB
              rw [ht] at hP1
              rcases hw with ⟨i_57, i_58, rfl, rfl⟩ | ⟨rfl, rfl⟩
              ·
                have i_57 : e_at.toInt ≤ 400 := i_57
                have i_58 : f_kd e_at.toNatClampNeg = (300 : Int32) := i_58
                obtain ⟨hP, hD⟩ := va_join (wr := [(a_nm, (arI G 401 f_nm)), (a_rc, (arI G 400 f_rc))]) hP hD [2, 3, 4] [0, 1] rfl rfl (by decide) (by decide) hk1 hFc hP1 hD1
                generalize H1 = H at hP hS ⊢
                refine g5_rs [(a_nm, (arI G 401 f_nm)), (a_rc, (arI G 400 f_rc)), (a_r, (oc4 a_tk a_rh a_rs a_rc e_ln e_pa e_at e_fp)), (a_tk, (oc8 a_kd a_nm a_pl)), (a_kd, (arI G 401 f_kd))] hP hD (fun hP hD => ?_)
                refine lv_if_eq (tgt := 107) hx hb dX4_readPart_95 (by decide) (fun c_59 => ?_) (fun c_59 => ?_)
                ·
                  exact absurd c_59 (by decide)
                ·
                  refine lv_aload_n hx hb dX4_readPart_98 rfl (lv_at hl 2 rfl) ?_
                  refine va_get (D := G.1) (ci := 4) (v := .int e_pa) (C := RX4) (T := TX4) (N := 8) hx hb hts inG_X4 hown hK hP 2 rfl rfl 5 (by decide) (hts _ fl_X4_39) (fun _ h9 => h9) rfl dX4_readPart_99 ?_
                  refine lv_bipush (v := 50) hx hb dX4_readPart_102 (by decide) ?_
                  refine lv_icmp_lt (tgt := 109) hx hb dX4_readPart_104 (by decide) (fun c_60 => ?_) (fun c_60 => ?_)
                  ·
                    have i_60 : e_pa.toInt < 50 := by have z := g5_lt (a := e_pa.toInt) (b := 50) (by rfl) (by decide) c_60; omega
                    refine lv_aload_n hx hb dX4_readPart_109 rfl (lv_at hl 2 rfl) ?_
                    refine lv_iload_n hx hb dX4_readPart_110 rfl (lv_at hl 0 rfl) ?_
                    refine lv_if_eq (tgt := 118) hx hb dX4_readPart_111 (by decide) (fun c_61 => ?_) (fun c_61 => ?_)
                    ·
                      refine lv_iconst (v := 0) hx hb dX4_readPart_118 (by decide) ?_
                      refine lv_iload_n hx hb dX4_readPart_119 rfl (lv_at hl 0 rfl) ?_
                      refine lv_if_eq (tgt := 127) hx hb dX4_readPart_120 (by decide) (fun c_62 => ?_) (fun c_62 => ?_)
                      ·
                        refine lv_aload_n hx hb dX4_readPart_127 rfl (lv_at hl 2 rfl) ?_
                        refine va_get (D := G.1) (ci := 4) (v := .ref a_tk) (C := RX4) (T := TX4) (N := 8) hx hb hts inG_X4 hown hK hP 2 rfl rfl 0 (by decide) (hts _ fl_X4_12) (fun _ h9 => h9) rfl dX4_readPart_128 ?_
                        refine va_get (D := G.1) (ci := 8) (v := .ref a_nm) (C := RX8) (T := TX8) (N := 3) hx hb hts inG_X8 hown hK hP 3 rfl rfl 1 (by decide) (hts _ fl_X4_93) (fun _ h9 => h9) rfl dX4_readPart_131 ?_
                        refine lv_aload_n hx hb dX4_readPart_134 rfl (lv_at hl 2 rfl) ?_
                        refine va_get (D := G.1) (ci := 4) (v := .int e_at) (C := RX4) (T := TX4) (N := 8) hx hb hts inG_X4 hown hK hP 2 rfl rfl 6 (by decide) (hts _ fl_X4_42) (fun _ h9 => h9) rfl dX4_readPart_135 ?_
                        refine va_iald hx hb hK hP 0 0 rfl rfl (i := e_at) (vp_in_iff.mpr ⟨by omega, by omega⟩) dX4_readPart_138 ?_
                        obtain ⟨hPc, hDc, hFc⟩ := g5_sub3 (wc := [(a_r, (oc4 a_tk a_rh a_rs a_rc e_ln e_pa e_at e_fp)), (a_rc, (arI G 400 f_rc))]) hP hD hS hA [2, 1] (by decide) rfl
                        refine va_calli (va_runV (As := [.int 0, .int (f_nm e_at.toNatClampNeg)]) (rest := []) ⟨hx, hb, hml, hown, hts⟩ (r_emit l G a_r a_rc a_tk a_rh a_rs H.size e_ln e_pa e_at e_fp 0 (f_nm e_at.toNatClampNeg) f_rc h_e_ln h_e_pa h_e_at (e_cd) (wok_num (toki_num e_tk i_58))) (cwV 2 hts gV_X4_79 rfl rfl rfl hv_X4_emit ⟨by simp only [headSpec]; omega, by simp only [headSpec]; omega⟩) (g5_preV hPc hK hDc hN hT hS hFc (ci := 4) (q0 := 0) rfl rfl) rfl rfl hl.1 rfl (lv_room (Nat.le_of_ble_eq_true rfl)) dX4_readPart_139 ⟨Nat.le_of_ble_eq_true rfl, Nat.le_of_ble_eq_true rfl⟩) hS (fun q _ h => hFc q h) hFc (fun r u t H1 locs ht hvm hw hB hz1 hk1 hS => ?_)
                        obtain ⟨hP1, hD1⟩ := hB
                        rw [ht] at hP1
                        obtain ⟨z68, z69, z70, i_63, i_64, i_65, i_66, i_67, y71, rfl⟩ := hw
                        have i_63 : -1 ≤ z68.toInt ∧ z68.toInt ≤ 399 := i_63
                        have i_64 : e_ln.toInt ≤ z69.toInt ∧ z69.toInt ≤ 400 := i_64
                        have i_65 : CDI z70 z69.toInt := i_65
                        have i_66 : OPK f_rc z70 e_ln.toInt := i_66
                        have i_67 : 0 ≤ z68.toInt → z68.toInt < z69.toInt ∧ z70 z68.toNatClampNeg = (((0 : Int32) <<< (12 &&& 31)) ||| (f_nm e_at.toNatClampNeg)) := i_67
                        obtain ⟨hP, hD⟩ := va_join (wr := [(a_nm, (arI G 401 f_nm)), (a_tk, (oc8 a_kd a_nm a_pl)), (a_kd, (arI G 401 f_kd))]) hP hD [2, 1] [0, 3, 4] rfl rfl (by decide) (by decide) hk1 hFc hP1 hD1
                        generalize H1 = H at hP hS ⊢
                        refine g5_rs [(a_nm, (arI G 401 f_nm)), (a_tk, (oc8 a_kd a_nm a_pl)), (a_kd, (arI G 401 f_kd)), (a_r, (oc4 a_tk a_rh a_rs a_rc z69 e_pa e_at e_fp)), (a_rc, (arI G 400 z70))] hP hD (fun hP hD => ?_)
                        refine g5_ti (v := z68) y71 ?_
                        refine lv_pop hx hb dX4_readPart_142 rfl ?_
                        refine lv_aload_n hx hb dX4_readPart_143 rfl (lv_at hl 2 rfl) ?_
                        refine lv_dup hx hb dX4_readPart_144 rfl ?_
                        refine va_get (D := G.1) (ci := 4) (v := .int e_pa) (C := RX4) (T := TX4) (N := 8) hx hb hts inG_X4 hown hK hP 3 rfl rfl 5 (by decide) (hts _ fl_X4_39) (fun _ h9 => h9) rfl dX4_readPart_145 ?_
                        refine lv_iconst (v := 1) hx hb dX4_readPart_148 (by decide) ?_
                        refine lv_iadd hx hb dX4_readPart_149 ?_
                        have t_72 : (e_pa + 1).toInt = e_pa.toInt + 1 := g5_iadd (a := e_pa.toInt) (b := 1) (by rfl) (by decide) (by omega) (by omega)
                        refine va_put (D := G.1) (ci := 4) (v := .int (e_pa + 1)) (ty := .int) (C := RX4) (T := TX4) (N := 8) hx hb hts inG_X4 tyX4 tyX4_ok nmX4 hown hK hP hD hS 3 rfl rfl 5 (by decide) (hts _ fl_X4_39) (fun _ h9 => h9) rfl (by decide +kernel) rfl rfl (Nat.le_of_ble_eq_true rfl) dX4_readPart_150 (fun H locs hP hD hS => ?_)
                        refine g5_rs [(a_nm, (arI G 401 f_nm)), (a_tk, (oc8 a_kd a_nm a_pl)), (a_kd, (arI G 401 f_kd)), (a_r, (oc4 a_tk a_rh a_rs a_rc z69 (e_pa + 1) e_at e_fp)), (a_rc, (arI G 400 z70))] hP hD (fun hP hD => ?_)
                        refine lv_aload_n hx hb dX4_readPart_153 rfl (lv_at hl 2 rfl) ?_
                        refine lv_dup hx hb dX4_readPart_154 rfl ?_
                        refine va_get (D := G.1) (ci := 4) (v := .int e_at) (C := RX4) (T := TX4) (N := 8) hx hb hts inG_X4 hown hK hP 3 rfl rfl 6 (by decide) (hts _ fl_X4_42) (fun _ h9 => h9) rfl dX4_readPart_155 ?_
                        refine lv_iconst (v := 1) hx hb dX4_readPart_158 (by decide) ?_
                        refine lv_iadd hx hb dX4_readPart_159 ?_
                        have t_73 : (e_at + 1).toInt = e_at.toInt + 1 := g5_iadd (a := e_at.toInt) (b := 1) (by rfl) (by decide) (by omega) (by omega)
                        refine va_put (D := G.1) (ci := 4) (v := .int (e_at + 1)) (ty := .int) (C := RX4) (T := TX4) (N := 8) hx hb hts inG_X4 tyX4 tyX4_ok nmX4 hown hK hP hD hS 3 rfl rfl 6 (by decide) (hts _ fl_X4_42) (fun _ h9 => h9) rfl (by decide +kernel) rfl rfl (Nat.le_of_ble_eq_true rfl) dX4_readPart_160 (fun H locs hP hD hS => ?_)
                        refine g5_rs [(a_nm, (arI G 401 f_nm)), (a_tk, (oc8 a_kd a_nm a_pl)), (a_kd, (arI G 401 f_kd)), (a_r, (oc4 a_tk a_rh a_rs a_rc z69 (e_pa + 1) (e_at + 1) e_fp)), (a_rc, (arI G 400 z70))] hP hD (fun hP hD => ?_)
                        refine lv_iconst (v := 1) hx hb dX4_readPart_163 (by decide) ?_
                        exact W.zret (v := 1) hx hb hr rfl (fun t ht hW => ⟨⟨1, [(a_r, (oc4 a_tk a_rh a_rs a_rc z69 (e_pa + 1) (e_at + 1) e_fp)), (a_tk, (oc8 a_kd a_nm a_pl)), (a_kd, (arI G 401 f_kd)), (a_nm, (arI G 401 f_nm)), (a_rc, (arI G 400 z70))], rfl, ⟨1, z69, (e_pa + 1), (e_at + 1), z70, ⟨by have zc_o_r : (1 : Int32).toInt = 1 := (by decide); omega, by have zc_o_r : (1 : Int32).toInt = 1 := (by decide); omega⟩, ⟨by omega, by omega⟩, ⟨by omega, by omega⟩, ⟨by omega, by omega⟩, i_65, i_66, rfl, rfl⟩, by rw [ht]; exact hP.sub [3, 1, 2, 0, 4] rfl, hD.sub [3, 1, 2, 0, 4] (by decide) rfl⟩, hS.F ht⟩) hS.2.2 dX4_readPart_164
                      ·
                        exact absurd c_62 (by decide)
                    ·
                      exact absurd c_61 (by decide)
                  ·
                    have i_60 : e_pa.toInt ≥ 50 := by have z := g5_ltN (a := e_pa.toInt) (b := 50) (by rfl) (by decide) c_60; omega
                    refine lv_iconst (v := 0) hx hb dX4_readPart_107 (by decide) ?_
                    exact W.zret (v := 0) hx hb hr rfl (fun t ht hW => ⟨⟨0, [(a_r, (oc4 a_tk a_rh a_rs a_rc e_ln e_pa e_at e_fp)), (a_tk, (oc8 a_kd a_nm a_pl)), (a_kd, (arI G 401 f_kd)), (a_nm, (arI G 401 f_nm)), (a_rc, (arI G 400 f_rc))], rfl, ⟨0, e_ln, e_pa, e_at, f_rc, ⟨by have zc_o_r : (0 : Int32).toInt = 0 := (by decide); omega, by have zc_o_r : (0 : Int32).toInt = 0 := (by decide); omega⟩, ⟨by omega, by omega⟩, h_e_at, h_e_pa, e_cd, opk_refl, rfl, rfl⟩, by rw [ht]; exact hP.sub [2, 3, 4, 0, 1] rfl, hD.sub [2, 3, 4, 0, 1] (by decide) rfl⟩, hS.F ht⟩) hS.2.2 dX4_readPart_108
              ·
                obtain ⟨hP, hD⟩ := va_join (wr := [(a_nm, (arI G 401 f_nm)), (a_rc, (arI G 400 f_rc))]) hP hD [2, 3, 4] [0, 1] rfl rfl (by decide) (by decide) hk1 hFc hP1 hD1
                generalize H1 = H at hP hS ⊢
                refine g5_rs [(a_nm, (arI G 401 f_nm)), (a_rc, (arI G 400 f_rc)), (a_r, (oc4 a_tk a_rh a_rs a_rc e_ln e_pa e_at e_fp)), (a_tk, (oc8 a_kd a_nm a_pl)), (a_kd, (arI G 401 f_kd))] hP hD (fun hP hD => ?_)
                refine lv_if_eq (tgt := 107) hx hb dX4_readPart_95 (by decide) (fun c_74 => ?_) (fun c_74 => ?_)
                ·
                  refine lv_iconst (v := 0) hx hb dX4_readPart_107 (by decide) ?_
                  exact W.zret (v := 0) hx hb hr rfl (fun t ht hW => ⟨⟨0, [(a_r, (oc4 a_tk a_rh a_rs a_rc e_ln e_pa e_at e_fp)), (a_tk, (oc8 a_kd a_nm a_pl)), (a_kd, (arI G 401 f_kd)), (a_nm, (arI G 401 f_nm)), (a_rc, (arI G 400 f_rc))], rfl, ⟨0, e_ln, e_pa, e_at, f_rc, ⟨by have zc_o_r : (0 : Int32).toInt = 0 := (by decide); omega, by have zc_o_r : (0 : Int32).toInt = 0 := (by decide); omega⟩, ⟨by omega, by omega⟩, h_e_at, h_e_pa, e_cd, opk_refl, rfl, rfl⟩, by rw [ht]; exact hP.sub [2, 3, 4, 0, 1] rfl, hD.sub [2, 3, 4, 0, 1] (by decide) rfl⟩, hS.F ht⟩) hS.2.2 dX4_readPart_108
                ·
                  exact absurd c_74 (by decide)
          ·
            have i_55 : ((z33 - 256) - 8).toInt < 8 := by have z := g5_geN (a := ((z33 - 256) - 8).toInt) (b := 8) (by rfl) (by decide) c_55; omega
            refine lv_iconst (v := 1) hx hb dX4_readPart_78 (by decide) ?_
            refine lv_goto (tgt := 83) hx hb dX4_readPart_79 (by decide) ?_
            refine lv_istore_n (lv' := [(3, .int 1), (2, .int ((z33 - 256) - 8)), (0, .ref a_r), (1, .int p_d)]) hx hb dX4_readPart_83 rfl hl (by decide) rfl (fun ls hl => ?_)
            refine lv_iload_n hx hb dX4_readPart_84 rfl (lv_at hl 0 rfl) ?_
            refine lv_if_ne (tgt := 98) hx hb dX4_readPart_85 (by decide) (fun c_75 => ?_) (fun c_75 => ?_)
            ·
              refine lv_aload_n hx hb dX4_readPart_98 rfl (lv_at hl 2 rfl) ?_
              refine va_get (D := G.1) (ci := 4) (v := .int e_pa) (C := RX4) (T := TX4) (N := 8) hx hb hts inG_X4 hown hK hP 2 rfl rfl 5 (by decide) (hts _ fl_X4_39) (fun _ h9 => h9) rfl dX4_readPart_99 ?_
              refine lv_bipush (v := 50) hx hb dX4_readPart_102 (by decide) ?_
              refine lv_icmp_lt (tgt := 109) hx hb dX4_readPart_104 (by decide) (fun c_76 => ?_) (fun c_76 => ?_)
              ·
                have i_76 : e_pa.toInt < 50 := by have z := g5_lt (a := e_pa.toInt) (b := 50) (by rfl) (by decide) c_76; omega
                refine lv_aload_n hx hb dX4_readPart_109 rfl (lv_at hl 2 rfl) ?_
                refine lv_iload_n hx hb dX4_readPart_110 rfl (lv_at hl 0 rfl) ?_
                refine lv_if_eq (tgt := 118) hx hb dX4_readPart_111 (by decide) (fun c_77 => ?_) (fun c_77 => ?_)
                ·
                  exact absurd c_77 (by decide)
                ·
                  refine lv_iconst (v := 1) hx hb dX4_readPart_114 (by decide) ?_
                  refine lv_goto (tgt := 119) hx hb dX4_readPart_115 (by decide) ?_
                  refine lv_iload_n hx hb dX4_readPart_119 rfl (lv_at hl 0 rfl) ?_
                  refine lv_if_eq (tgt := 127) hx hb dX4_readPart_120 (by decide) (fun c_78 => ?_) (fun c_78 => ?_)
                  ·
                    exact absurd c_78 (by decide)
                  ·
                    refine lv_iload_n hx hb dX4_readPart_123 rfl (lv_at hl 1 rfl) ?_
                    refine lv_goto (tgt := 139) hx hb dX4_readPart_124 (by decide) ?_
                    obtain ⟨hPc, hDc, hFc⟩ := g5_sub3 (wc := [(a_r, (oc4 a_tk a_rh a_rs a_rc e_ln e_pa e_at e_fp)), (a_rc, (arI G 400 f_rc))]) hP hD hS hA [2, 1] (by decide) rfl
                    refine va_calli (va_runV (As := [.int 1, .int ((z33 - 256) - 8)]) (rest := []) ⟨hx, hb, hml, hown, hts⟩ (r_emit l G a_r a_rc a_tk a_rh a_rs H.size e_ln e_pa e_at e_fp 1 ((z33 - 256) - 8) f_rc h_e_ln h_e_pa h_e_at (e_cd) (wok_word (by omega) (by omega))) (cwV 2 hts gV_X4_79 rfl rfl rfl hv_X4_emit ⟨by simp only [headSpec]; omega, by simp only [headSpec]; omega⟩) (g5_preV hPc hK hDc hN hT hS hFc (ci := 4) (q0 := 0) rfl rfl) rfl rfl hl.1 rfl (lv_room (Nat.le_of_ble_eq_true rfl)) dX4_readPart_139 ⟨Nat.le_of_ble_eq_true rfl, Nat.le_of_ble_eq_true rfl⟩) hS (fun q _ h => hFc q h) hFc (fun r u t H1 locs ht hvm hw hB hz1 hk1 hS => ?_)
                    obtain ⟨hP1, hD1⟩ := hB
                    rw [ht] at hP1
                    obtain ⟨z84, z85, z86, i_79, i_80, i_81, i_82, i_83, y87, rfl⟩ := hw
                    have i_79 : -1 ≤ z84.toInt ∧ z84.toInt ≤ 399 := i_79
                    have i_80 : e_ln.toInt ≤ z85.toInt ∧ z85.toInt ≤ 400 := i_80
                    have i_81 : CDI z86 z85.toInt := i_81
                    have i_82 : OPK f_rc z86 e_ln.toInt := i_82
                    have i_83 : 0 ≤ z84.toInt → z84.toInt < z85.toInt ∧ z86 z84.toNatClampNeg = (((1 : Int32) <<< (12 &&& 31)) ||| ((z33 - 256) - 8)) := i_83
                    obtain ⟨hP, hD⟩ := va_join (wr := [(a_nm, (arI G 401 f_nm)), (a_tk, (oc8 a_kd a_nm a_pl)), (a_kd, (arI G 401 f_kd))]) hP hD [2, 1] [0, 3, 4] rfl rfl (by decide) (by decide) hk1 hFc hP1 hD1
                    generalize H1 = H at hP hS ⊢
                    refine g5_rs [(a_nm, (arI G 401 f_nm)), (a_tk, (oc8 a_kd a_nm a_pl)), (a_kd, (arI G 401 f_kd)), (a_r, (oc4 a_tk a_rh a_rs a_rc z85 e_pa e_at e_fp)), (a_rc, (arI G 400 z86))] hP hD (fun hP hD => ?_)
                    refine g5_ti (v := z84) y87 ?_
                    refine lv_pop hx hb dX4_readPart_142 rfl ?_
                    refine lv_aload_n hx hb dX4_readPart_143 rfl (lv_at hl 2 rfl) ?_
                    refine lv_dup hx hb dX4_readPart_144 rfl ?_
                    refine va_get (D := G.1) (ci := 4) (v := .int e_pa) (C := RX4) (T := TX4) (N := 8) hx hb hts inG_X4 hown hK hP 3 rfl rfl 5 (by decide) (hts _ fl_X4_39) (fun _ h9 => h9) rfl dX4_readPart_145 ?_
                    refine lv_iconst (v := 1) hx hb dX4_readPart_148 (by decide) ?_
                    refine lv_iadd hx hb dX4_readPart_149 ?_
                    have t_88 : (e_pa + 1).toInt = e_pa.toInt + 1 := g5_iadd (a := e_pa.toInt) (b := 1) (by rfl) (by decide) (by omega) (by omega)
                    refine va_put (D := G.1) (ci := 4) (v := .int (e_pa + 1)) (ty := .int) (C := RX4) (T := TX4) (N := 8) hx hb hts inG_X4 tyX4 tyX4_ok nmX4 hown hK hP hD hS 3 rfl rfl 5 (by decide) (hts _ fl_X4_39) (fun _ h9 => h9) rfl (by decide +kernel) rfl rfl (Nat.le_of_ble_eq_true rfl) dX4_readPart_150 (fun H locs hP hD hS => ?_)
                    refine g5_rs [(a_nm, (arI G 401 f_nm)), (a_tk, (oc8 a_kd a_nm a_pl)), (a_kd, (arI G 401 f_kd)), (a_r, (oc4 a_tk a_rh a_rs a_rc z85 (e_pa + 1) e_at e_fp)), (a_rc, (arI G 400 z86))] hP hD (fun hP hD => ?_)
                    refine lv_aload_n hx hb dX4_readPart_153 rfl (lv_at hl 2 rfl) ?_
                    refine lv_dup hx hb dX4_readPart_154 rfl ?_
                    refine va_get (D := G.1) (ci := 4) (v := .int e_at) (C := RX4) (T := TX4) (N := 8) hx hb hts inG_X4 hown hK hP 3 rfl rfl 6 (by decide) (hts _ fl_X4_42) (fun _ h9 => h9) rfl dX4_readPart_155 ?_
                    refine lv_iconst (v := 1) hx hb dX4_readPart_158 (by decide) ?_
                    refine lv_iadd hx hb dX4_readPart_159 ?_
                    have t_89 : (e_at + 1).toInt = e_at.toInt + 1 := g5_iadd (a := e_at.toInt) (b := 1) (by rfl) (by decide) (by omega) (by omega)
                    refine va_put (D := G.1) (ci := 4) (v := .int (e_at + 1)) (ty := .int) (C := RX4) (T := TX4) (N := 8) hx hb hts inG_X4 tyX4 tyX4_ok nmX4 hown hK hP hD hS 3 rfl rfl 6 (by decide) (hts _ fl_X4_42) (fun _ h9 => h9) rfl (by decide +kernel) rfl rfl (Nat.le_of_ble_eq_true rfl) dX4_readPart_160 (fun H locs hP hD hS => ?_)
                    refine g5_rs [(a_nm, (arI G 401 f_nm)), (a_tk, (oc8 a_kd a_nm a_pl)), (a_kd, (arI G 401 f_kd)), (a_r, (oc4 a_tk a_rh a_rs a_rc z85 (e_pa + 1) (e_at + 1) e_fp)), (a_rc, (arI G 400 z86))] hP hD (fun hP hD => ?_)
                    refine lv_iconst (v := 1) hx hb dX4_readPart_163 (by decide) ?_
                    exact W.zret (v := 1) hx hb hr rfl (fun t ht hW => ⟨⟨1, [(a_r, (oc4 a_tk a_rh a_rs a_rc z85 (e_pa + 1) (e_at + 1) e_fp)), (a_tk, (oc8 a_kd a_nm a_pl)), (a_kd, (arI G 401 f_kd)), (a_nm, (arI G 401 f_nm)), (a_rc, (arI G 400 z86))], rfl, ⟨1, z85, (e_pa + 1), (e_at + 1), z86, ⟨by have zc_o_r : (1 : Int32).toInt = 1 := (by decide); omega, by have zc_o_r : (1 : Int32).toInt = 1 := (by decide); omega⟩, ⟨by omega, by omega⟩, ⟨by omega, by omega⟩, ⟨by omega, by omega⟩, i_81, i_82, rfl, rfl⟩, by rw [ht]; exact hP.sub [3, 1, 2, 0, 4] rfl, hD.sub [3, 1, 2, 0, 4] (by decide) rfl⟩, hS.F ht⟩) hS.2.2 dX4_readPart_164
              ·
                have i_76 : e_pa.toInt ≥ 50 := by have z := g5_ltN (a := e_pa.toInt) (b := 50) (by rfl) (by decide) c_76; omega
                refine lv_iconst (v := 0) hx hb dX4_readPart_107 (by decide) ?_
                exact W.zret (v := 0) hx hb hr rfl (fun t ht hW => ⟨⟨0, [(a_r, (oc4 a_tk a_rh a_rs a_rc e_ln e_pa e_at e_fp)), (a_tk, (oc8 a_kd a_nm a_pl)), (a_kd, (arI G 401 f_kd)), (a_nm, (arI G 401 f_nm)), (a_rc, (arI G 400 f_rc))], rfl, ⟨0, e_ln, e_pa, e_at, f_rc, ⟨by have zc_o_r : (0 : Int32).toInt = 0 := (by decide); omega, by have zc_o_r : (0 : Int32).toInt = 0 := (by decide); omega⟩, ⟨by omega, by omega⟩, h_e_at, h_e_pa, e_cd, opk_refl, rfl, rfl⟩, by rw [ht]; exact hP.sub [2, 3, 4, 0, 1] rfl, hD.sub [2, 3, 4, 0, 1] (by decide) rfl⟩, hS.F ht⟩) hS.2.2 dX4_readPart_108
            ·
              exact absurd c_75 (by decide)
      ·
        obtain ⟨hP, hD⟩ := va_join (wr := [(a_nm, (arI G 401 f_nm)), (a_rc, (arI G 400 f_rc)), (a_r, (oc4 a_tk a_rh a_rs a_rc e_ln e_pa e_at e_fp))]) hP hD [3, 4] [0, 1, 2] rfl rfl (by decide) (by decide) hk1 hFc hP1 hD1
        generalize H1 = H at hP hS ⊢
        refine g5_rs [(a_nm, (arI G 401 f_nm)), (a_rc, (arI G 400 f_rc)), (a_r, (oc4 a_tk a_rh a_rs a_rc e_ln e_pa e_at e_fp)), (a_tk, (oc8 a_kd a_nm a_pl)), (a_kd, (arI G 401 f_kd))] hP hD (fun hP hD => ?_)
        refine lv_sipush (v := 256) hx hb dX4_readPart_60 (by decide) ?_
        refine lv_isub hx hb dX4_readPart_63 ?_
        refine g5_ti (v := 46) (by decide) ?_
        refine lv_bipush (v := 8) hx hb dX4_readPart_64 (by decide) ?_
        refine lv_isub hx hb dX4_readPart_66 ?_
        refine g5_ti (v := 38) (by decide) ?_
        refine lv_istore_n (lv' := [(2, .int 38), (0, .ref a_r), (1, .int p_d)]) hx hb dX4_readPart_67 rfl hl (by decide) rfl (fun ls hl => ?_)
        refine lv_iload_n hx hb dX4_readPart_68 rfl (lv_at hl 0 rfl) ?_
        refine lv_if_lt (tgt := 82) hx hb dX4_readPart_69 (by decide) (fun c_90 => ?_) (fun c_90 => ?_)
        ·
          exact absurd c_90 (by decide)
        ·
          refine lv_iload_n hx hb dX4_readPart_72 rfl (lv_at hl 0 rfl) ?_
          refine lv_bipush (v := 8) hx hb dX4_readPart_73 (by decide) ?_
          refine lv_icmp_ge (tgt := 82) hx hb dX4_readPart_75 (by decide) (fun c_91 => ?_) (fun c_91 => ?_)
          ·
            refine lv_iconst (v := 0) hx hb dX4_readPart_82 (by decide) ?_
            refine lv_istore_n (lv' := [(3, .int 0), (2, .int 38), (0, .ref a_r), (1, .int p_d)]) hx hb dX4_readPart_83 rfl hl (by decide) rfl (fun ls hl => ?_)
            refine lv_iload_n hx hb dX4_readPart_84 rfl (lv_at hl 0 rfl) ?_
            refine lv_if_ne (tgt := 98) hx hb dX4_readPart_85 (by decide) (fun c_92 => ?_) (fun c_92 => ?_)
            ·
              exact absurd c_92 (by decide)
            ·
              refine lv_aload_n hx hb dX4_readPart_88 rfl (lv_at hl 2 rfl) ?_
              refine lv_sipush (v := 300) hx hb dX4_readPart_89 (by decide) ?_
              obtain ⟨hPc, hDc, hFc⟩ := g5_sub3 (wc := [(a_r, (oc4 a_tk a_rh a_rs a_rc e_ln e_pa e_at e_fp)), (a_tk, (oc8 a_kd a_nm a_pl)), (a_kd, (arI G 401 f_kd))]) hP hD hS hA [2, 3, 4] (by decide) rfl
              refine va_calli (va_runV (As := [.int 300]) (rest := []) ⟨hx, hb, hml, hown, hts⟩ (r_isNext l G a_r a_tk a_kd a_rh a_rs a_rc a_nm a_pl H.size e_ln e_pa e_at e_fp 300 f_kd h_e_ln h_e_pa h_e_at) (cwV 1 hts gV_X4_49 rfl rfl rfl hv_X4_isNext ⟨by simp only [headSpec]; omega, by simp only [headSpec]; omega⟩) (g5_preV hPc hK hDc hN hT hS hFc (ci := 4) (q0 := 0) rfl rfl) rfl rfl hl.1 rfl (lv_room (Nat.le_of_ble_eq_true rfl)) dX4_readPart_92 ⟨Nat.le_of_ble_eq_true rfl, Nat.le_of_ble_eq_true rfl⟩) hS (fun q _ h => hFc q h) hFc (fun r u t H1 locs ht hvm hw hB hz1 hk1 hS => ?_)
              obtain ⟨hP1, hD1⟩ := hB
              rw [ht] at hP1
              rcases hw with ⟨i_93, i_94, rfl, rfl⟩ | ⟨rfl, rfl⟩
              ·
                have i_93 : e_at.toInt ≤ 400 := i_93
                have i_94 : f_kd e_at.toNatClampNeg = (300 : Int32) := i_94
                obtain ⟨hP, hD⟩ := va_join (wr := [(a_nm, (arI G 401 f_nm)), (a_rc, (arI G 400 f_rc))]) hP hD [2, 3, 4] [0, 1] rfl rfl (by decide) (by decide) hk1 hFc hP1 hD1
                generalize H1 = H at hP hS ⊢
                refine g5_rs [(a_nm, (arI G 401 f_nm)), (a_rc, (arI G 400 f_rc)), (a_r, (oc4 a_tk a_rh a_rs a_rc e_ln e_pa e_at e_fp)), (a_tk, (oc8 a_kd a_nm a_pl)), (a_kd, (arI G 401 f_kd))] hP hD (fun hP hD => ?_)
                refine lv_if_eq (tgt := 107) hx hb dX4_readPart_95 (by decide) (fun c_95 => ?_) (fun c_95 => ?_)
                ·
                  exact absurd c_95 (by decide)
                ·
                  refine lv_aload_n hx hb dX4_readPart_98 rfl (lv_at hl 2 rfl) ?_
                  refine va_get (D := G.1) (ci := 4) (v := .int e_pa) (C := RX4) (T := TX4) (N := 8) hx hb hts inG_X4 hown hK hP 2 rfl rfl 5 (by decide) (hts _ fl_X4_39) (fun _ h9 => h9) rfl dX4_readPart_99 ?_
                  refine lv_bipush (v := 50) hx hb dX4_readPart_102 (by decide) ?_
                  refine lv_icmp_lt (tgt := 109) hx hb dX4_readPart_104 (by decide) (fun c_96 => ?_) (fun c_96 => ?_)
                  ·
                    have i_96 : e_pa.toInt < 50 := by have z := g5_lt (a := e_pa.toInt) (b := 50) (by rfl) (by decide) c_96; omega
                    refine lv_aload_n hx hb dX4_readPart_109 rfl (lv_at hl 2 rfl) ?_
                    refine lv_iload_n hx hb dX4_readPart_110 rfl (lv_at hl 0 rfl) ?_
                    refine lv_if_eq (tgt := 118) hx hb dX4_readPart_111 (by decide) (fun c_97 => ?_) (fun c_97 => ?_)
                    ·
                      refine lv_iconst (v := 0) hx hb dX4_readPart_118 (by decide) ?_
                      refine lv_iload_n hx hb dX4_readPart_119 rfl (lv_at hl 0 rfl) ?_
                      refine lv_if_eq (tgt := 127) hx hb dX4_readPart_120 (by decide) (fun c_98 => ?_) (fun c_98 => ?_)
                      ·
                        refine lv_aload_n hx hb dX4_readPart_127 rfl (lv_at hl 2 rfl) ?_
                        refine va_get (D := G.1) (ci := 4) (v := .ref a_tk) (C := RX4) (T := TX4) (N := 8) hx hb hts inG_X4 hown hK hP 2 rfl rfl 0 (by decide) (hts _ fl_X4_12) (fun _ h9 => h9) rfl dX4_readPart_128 ?_
                        refine va_get (D := G.1) (ci := 8) (v := .ref a_nm) (C := RX8) (T := TX8) (N := 3) hx hb hts inG_X8 hown hK hP 3 rfl rfl 1 (by decide) (hts _ fl_X4_93) (fun _ h9 => h9) rfl dX4_readPart_131 ?_
                        refine lv_aload_n hx hb dX4_readPart_134 rfl (lv_at hl 2 rfl) ?_
                        refine va_get (D := G.1) (ci := 4) (v := .int e_at) (C := RX4) (T := TX4) (N := 8) hx hb hts inG_X4 hown hK hP 2 rfl rfl 6 (by decide) (hts _ fl_X4_42) (fun _ h9 => h9) rfl dX4_readPart_135 ?_
                        refine va_iald hx hb hK hP 0 0 rfl rfl (i := e_at) (vp_in_iff.mpr ⟨by omega, by omega⟩) dX4_readPart_138 ?_
                        obtain ⟨hPc, hDc, hFc⟩ := g5_sub3 (wc := [(a_r, (oc4 a_tk a_rh a_rs a_rc e_ln e_pa e_at e_fp)), (a_rc, (arI G 400 f_rc))]) hP hD hS hA [2, 1] (by decide) rfl
                        refine va_calli (va_runV (As := [.int 0, .int (f_nm e_at.toNatClampNeg)]) (rest := []) ⟨hx, hb, hml, hown, hts⟩ (r_emit l G a_r a_rc a_tk a_rh a_rs H.size e_ln e_pa e_at e_fp 0 (f_nm e_at.toNatClampNeg) f_rc h_e_ln h_e_pa h_e_at (e_cd) (wok_num (toki_num e_tk i_94))) (cwV 2 hts gV_X4_79 rfl rfl rfl hv_X4_emit ⟨by simp only [headSpec]; omega, by simp only [headSpec]; omega⟩) (g5_preV hPc hK hDc hN hT hS hFc (ci := 4) (q0 := 0) rfl rfl) rfl rfl hl.1 rfl (lv_room (Nat.le_of_ble_eq_true rfl)) dX4_readPart_139 ⟨Nat.le_of_ble_eq_true rfl, Nat.le_of_ble_eq_true rfl⟩) hS (fun q _ h => hFc q h) hFc (fun r u t H1 locs ht hvm hw hB hz1 hk1 hS => ?_)
                        obtain ⟨hP1, hD1⟩ := hB
                        rw [ht] at hP1
                        obtain ⟨z104, z105, z106, i_99, i_100, i_101, i_102, i_103, y107, rfl⟩ := hw
                        have i_99 : -1 ≤ z104.toInt ∧ z104.toInt ≤ 399 := i_99
                        have i_100 : e_ln.toInt ≤ z105.toInt ∧ z105.toInt ≤ 400 := i_100
                        have i_101 : CDI z106 z105.toInt := i_101
                        have i_102 : OPK f_rc z106 e_ln.toInt := i_102
                        have i_103 : 0 ≤ z104.toInt → z104.toInt < z105.toInt ∧ z106 z104.toNatClampNeg = (((0 : Int32) <<< (12 &&& 31)) ||| (f_nm e_at.toNatClampNeg)) := i_103
                        obtain ⟨hP, hD⟩ := va_join (wr := [(a_nm, (arI G 401 f_nm)), (a_tk, (oc8 a_kd a_nm a_pl)), (a_kd, (arI G 401 f_kd))]) hP hD [2, 1] [0, 3, 4] rfl rfl (by decide) (by decide) hk1 hFc hP1 hD1
                        generalize H1 = H at hP hS ⊢
                        refine g5_rs [(a_nm, (arI G 401 f_nm)), (a_tk, (oc8 a_kd a_nm a_pl)), (a_kd, (arI G 401 f_kd)), (a_r, (oc4 a_tk a_rh a_rs a_rc z105 e_pa e_at e_fp)), (a_rc, (arI G 400 z106))] hP hD (fun hP hD => ?_)
                        refine g5_ti (v := z104) y107 ?_
                        refine lv_pop hx hb dX4_readPart_142 rfl ?_
                        refine lv_aload_n hx hb dX4_readPart_143 rfl (lv_at hl 2 rfl) ?_
                        refine lv_dup hx hb dX4_readPart_144 rfl ?_
                        refine va_get (D := G.1) (ci := 4) (v := .int e_pa) (C := RX4) (T := TX4) (N := 8) hx hb hts inG_X4 hown hK hP 3 rfl rfl 5 (by decide) (hts _ fl_X4_39) (fun _ h9 => h9) rfl dX4_readPart_145 ?_
                        refine lv_iconst (v := 1) hx hb dX4_readPart_148 (by decide) ?_
                        refine lv_iadd hx hb dX4_readPart_149 ?_
                        have t_108 : (e_pa + 1).toInt = e_pa.toInt + 1 := g5_iadd (a := e_pa.toInt) (b := 1) (by rfl) (by decide) (by omega) (by omega)
                        refine va_put (D := G.1) (ci := 4) (v := .int (e_pa + 1)) (ty := .int) (C := RX4) (T := TX4) (N := 8) hx hb hts inG_X4 tyX4 tyX4_ok nmX4 hown hK hP hD hS 3 rfl rfl 5 (by decide) (hts _ fl_X4_39) (fun _ h9 => h9) rfl (by decide +kernel) rfl rfl (Nat.le_of_ble_eq_true rfl) dX4_readPart_150 (fun H locs hP hD hS => ?_)
                        refine g5_rs [(a_nm, (arI G 401 f_nm)), (a_tk, (oc8 a_kd a_nm a_pl)), (a_kd, (arI G 401 f_kd)), (a_r, (oc4 a_tk a_rh a_rs a_rc z105 (e_pa + 1) e_at e_fp)), (a_rc, (arI G 400 z106))] hP hD (fun hP hD => ?_)
                        refine lv_aload_n hx hb dX4_readPart_153 rfl (lv_at hl 2 rfl) ?_
                        refine lv_dup hx hb dX4_readPart_154 rfl ?_
                        refine va_get (D := G.1) (ci := 4) (v := .int e_at) (C := RX4) (T := TX4) (N := 8) hx hb hts inG_X4 hown hK hP 3 rfl rfl 6 (by decide) (hts _ fl_X4_42) (fun _ h9 => h9) rfl dX4_readPart_155 ?_
                        refine lv_iconst (v := 1) hx hb dX4_readPart_158 (by decide) ?_
                        refine lv_iadd hx hb dX4_readPart_159 ?_
                        have t_109 : (e_at + 1).toInt = e_at.toInt + 1 := g5_iadd (a := e_at.toInt) (b := 1) (by rfl) (by decide) (by omega) (by omega)
                        refine va_put (D := G.1) (ci := 4) (v := .int (e_at + 1)) (ty := .int) (C := RX4) (T := TX4) (N := 8) hx hb hts inG_X4 tyX4 tyX4_ok nmX4 hown hK hP hD hS 3 rfl rfl 6 (by decide) (hts _ fl_X4_42) (fun _ h9 => h9) rfl (by decide +kernel) rfl rfl (Nat.le_of_ble_eq_true rfl) dX4_readPart_160 (fun H locs hP hD hS => ?_)
                        refine g5_rs [(a_nm, (arI G 401 f_nm)), (a_tk, (oc8 a_kd a_nm a_pl)), (a_kd, (arI G 401 f_kd)), (a_r, (oc4 a_tk a_rh a_rs a_rc z105 (e_pa + 1) (e_at + 1) e_fp)), (a_rc, (arI G 400 z106))] hP hD (fun hP hD => ?_)
                        refine lv_iconst (v := 1) hx hb dX4_readPart_163 (by decide) ?_
                        exact W.zret (v := 1) hx hb hr rfl (fun t ht hW => ⟨⟨1, [(a_r, (oc4 a_tk a_rh a_rs a_rc z105 (e_pa + 1) (e_at + 1) e_fp)), (a_tk, (oc8 a_kd a_nm a_pl)), (a_kd, (arI G 401 f_kd)), (a_nm, (arI G 401 f_nm)), (a_rc, (arI G 400 z106))], rfl, ⟨1, z105, (e_pa + 1), (e_at + 1), z106, ⟨by have zc_o_r : (1 : Int32).toInt = 1 := (by decide); omega, by have zc_o_r : (1 : Int32).toInt = 1 := (by decide); omega⟩, ⟨by omega, by omega⟩, ⟨by omega, by omega⟩, ⟨by omega, by omega⟩, i_101, i_102, rfl, rfl⟩, by rw [ht]; exact hP.sub [3, 1, 2, 0, 4] rfl, hD.sub [3, 1, 2, 0, 4] (by decide) rfl⟩, hS.F ht⟩) hS.2.2 dX4_readPart_164
                      ·
                        exact absurd c_98 (by decide)
                    ·
                      exact absurd c_97 (by decide)
                  ·
                    have i_96 : e_pa.toInt ≥ 50 := by have z := g5_ltN (a := e_pa.toInt) (b := 50) (by rfl) (by decide) c_96; omega
                    refine lv_iconst (v := 0) hx hb dX4_readPart_107 (by decide) ?_
                    exact W.zret (v := 0) hx hb hr rfl (fun t ht hW => ⟨⟨0, [(a_r, (oc4 a_tk a_rh a_rs a_rc e_ln e_pa e_at e_fp)), (a_tk, (oc8 a_kd a_nm a_pl)), (a_kd, (arI G 401 f_kd)), (a_nm, (arI G 401 f_nm)), (a_rc, (arI G 400 f_rc))], rfl, ⟨0, e_ln, e_pa, e_at, f_rc, ⟨by have zc_o_r : (0 : Int32).toInt = 0 := (by decide); omega, by have zc_o_r : (0 : Int32).toInt = 0 := (by decide); omega⟩, ⟨by omega, by omega⟩, h_e_at, h_e_pa, e_cd, opk_refl, rfl, rfl⟩, by rw [ht]; exact hP.sub [2, 3, 4, 0, 1] rfl, hD.sub [2, 3, 4, 0, 1] (by decide) rfl⟩, hS.F ht⟩) hS.2.2 dX4_readPart_108
              ·
                obtain ⟨hP, hD⟩ := va_join (wr := [(a_nm, (arI G 401 f_nm)), (a_rc, (arI G 400 f_rc))]) hP hD [2, 3, 4] [0, 1] rfl rfl (by decide) (by decide) hk1 hFc hP1 hD1
                generalize H1 = H at hP hS ⊢
                refine g5_rs [(a_nm, (arI G 401 f_nm)), (a_rc, (arI G 400 f_rc)), (a_r, (oc4 a_tk a_rh a_rs a_rc e_ln e_pa e_at e_fp)), (a_tk, (oc8 a_kd a_nm a_pl)), (a_kd, (arI G 401 f_kd))] hP hD (fun hP hD => ?_)
                refine lv_if_eq (tgt := 107) hx hb dX4_readPart_95 (by decide) (fun c_110 => ?_) (fun c_110 => ?_)
                ·
                  refine lv_iconst (v := 0) hx hb dX4_readPart_107 (by decide) ?_
                  exact W.zret (v := 0) hx hb hr rfl (fun t ht hW => ⟨⟨0, [(a_r, (oc4 a_tk a_rh a_rs a_rc e_ln e_pa e_at e_fp)), (a_tk, (oc8 a_kd a_nm a_pl)), (a_kd, (arI G 401 f_kd)), (a_nm, (arI G 401 f_nm)), (a_rc, (arI G 400 f_rc))], rfl, ⟨0, e_ln, e_pa, e_at, f_rc, ⟨by have zc_o_r : (0 : Int32).toInt = 0 := (by decide); omega, by have zc_o_r : (0 : Int32).toInt = 0 := (by decide); omega⟩, ⟨by omega, by omega⟩, h_e_at, h_e_pa, e_cd, opk_refl, rfl, rfl⟩, by rw [ht]; exact hP.sub [2, 3, 4, 0, 1] rfl, hD.sub [2, 3, 4, 0, 1] (by decide) rfl⟩, hS.F ht⟩) hS.2.2 dX4_readPart_108
                ·
                  exact absurd c_110 (by decide)
          ·
            exact absurd c_91 (by decide)
    ·
      exact absurd c_31 (by decide)
theorem dgX4_readSum_0 : ∀ r ∈ ([(0, (.aload_n 0, 1)), (1, (.iload_n 1, 1)), (2, (.invokevirtual 90, 3)), (5, (.ifCond .ne 5, 3)), (8, (.iconst 0, 1)), (9, (.ireturn, 1)), (10, (.iconst (-1), 1)), (11, (.istore_n 2, 1)), (12, (.iconst 0, 1)), (13, (.istore_n 3, 1)), (14, (.iload_n 3, 1)), (15, (.sipush 400, 3)), (18, (.if_icmp .ge 153, 3)), (21, (.aload_n 0, 1)), (22, (.bipush 43, 2)), (24, (.invokevirtual 49, 3)), (27, (.ifCond .eq 7, 3)), (30, (.iconst 2, 1)), (31, (.goto 43, 3)), (34, (.aload_n 0, 1)), (35, (.bipush 45, 2)), (37, (.invokevirtual 49, 3)), (40, (.ifCond .eq 7, 3)), (43, (.iconst 3, 1)), (44, (.goto 30, 3)), (47, (.aload_n 0, 1)), (48, (.bipush 42, 2)), (50, (.invokevirtual 49, 3)), (53, (.ifCond .eq 7, 3)), (56, (.iconst 4, 1)), (57, (.goto 17, 3)), (60, (.aload_n 0, 1)), (61, (.bipush 47, 2)), (63, (.invokevirtual 49, 3)), (66, (.ifCond .eq 7, 3)), (69, (.iconst 5, 1)), (70, (.goto 4, 3)), (73, (.iconst (-1), 1)), (74, (.istore 4, 2)), (76, (.iload 4, 2))] : List (Nat × (Instr × Nat))), decode cX4_readSum r.1 = .ok r.2 := by decide +kernel
theorem dX4_readSum_0 : decode cX4_readSum 0 = .ok (.aload_n 0, 1) := dgX4_readSum_0 (0, (.aload_n 0, 1)) (List.mem_of_getElem? (i := 0) rfl)
theorem dX4_readSum_1 : decode cX4_readSum 1 = .ok (.iload_n 1, 1) := dgX4_readSum_0 (1, (.iload_n 1, 1)) (List.mem_of_getElem? (i := 1) rfl)
theorem dX4_readSum_2 : decode cX4_readSum 2 = .ok (.invokevirtual 90, 3) := dgX4_readSum_0 (2, (.invokevirtual 90, 3)) (List.mem_of_getElem? (i := 2) rfl)
theorem dX4_readSum_5 : decode cX4_readSum 5 = .ok (.ifCond .ne 5, 3) := dgX4_readSum_0 (5, (.ifCond .ne 5, 3)) (List.mem_of_getElem? (i := 3) rfl)
theorem dX4_readSum_8 : decode cX4_readSum 8 = .ok (.iconst 0, 1) := dgX4_readSum_0 (8, (.iconst 0, 1)) (List.mem_of_getElem? (i := 4) rfl)
theorem dX4_readSum_9 : decode cX4_readSum 9 = .ok (.ireturn, 1) := dgX4_readSum_0 (9, (.ireturn, 1)) (List.mem_of_getElem? (i := 5) rfl)
theorem dX4_readSum_10 : decode cX4_readSum 10 = .ok (.iconst (-1), 1) := dgX4_readSum_0 (10, (.iconst (-1), 1)) (List.mem_of_getElem? (i := 6) rfl)
theorem dX4_readSum_11 : decode cX4_readSum 11 = .ok (.istore_n 2, 1) := dgX4_readSum_0 (11, (.istore_n 2, 1)) (List.mem_of_getElem? (i := 7) rfl)
theorem dX4_readSum_12 : decode cX4_readSum 12 = .ok (.iconst 0, 1) := dgX4_readSum_0 (12, (.iconst 0, 1)) (List.mem_of_getElem? (i := 8) rfl)
theorem dX4_readSum_13 : decode cX4_readSum 13 = .ok (.istore_n 3, 1) := dgX4_readSum_0 (13, (.istore_n 3, 1)) (List.mem_of_getElem? (i := 9) rfl)
theorem dX4_readSum_14 : decode cX4_readSum 14 = .ok (.iload_n 3, 1) := dgX4_readSum_0 (14, (.iload_n 3, 1)) (List.mem_of_getElem? (i := 10) rfl)
theorem dX4_readSum_15 : decode cX4_readSum 15 = .ok (.sipush 400, 3) := dgX4_readSum_0 (15, (.sipush 400, 3)) (List.mem_of_getElem? (i := 11) rfl)
theorem dX4_readSum_18 : decode cX4_readSum 18 = .ok (.if_icmp .ge 153, 3) := dgX4_readSum_0 (18, (.if_icmp .ge 153, 3)) (List.mem_of_getElem? (i := 12) rfl)
theorem dX4_readSum_21 : decode cX4_readSum 21 = .ok (.aload_n 0, 1) := dgX4_readSum_0 (21, (.aload_n 0, 1)) (List.mem_of_getElem? (i := 13) rfl)
theorem dX4_readSum_22 : decode cX4_readSum 22 = .ok (.bipush 43, 2) := dgX4_readSum_0 (22, (.bipush 43, 2)) (List.mem_of_getElem? (i := 14) rfl)
theorem dX4_readSum_24 : decode cX4_readSum 24 = .ok (.invokevirtual 49, 3) := dgX4_readSum_0 (24, (.invokevirtual 49, 3)) (List.mem_of_getElem? (i := 15) rfl)
theorem dX4_readSum_27 : decode cX4_readSum 27 = .ok (.ifCond .eq 7, 3) := dgX4_readSum_0 (27, (.ifCond .eq 7, 3)) (List.mem_of_getElem? (i := 16) rfl)
theorem dX4_readSum_30 : decode cX4_readSum 30 = .ok (.iconst 2, 1) := dgX4_readSum_0 (30, (.iconst 2, 1)) (List.mem_of_getElem? (i := 17) rfl)
theorem dX4_readSum_31 : decode cX4_readSum 31 = .ok (.goto 43, 3) := dgX4_readSum_0 (31, (.goto 43, 3)) (List.mem_of_getElem? (i := 18) rfl)
theorem dX4_readSum_34 : decode cX4_readSum 34 = .ok (.aload_n 0, 1) := dgX4_readSum_0 (34, (.aload_n 0, 1)) (List.mem_of_getElem? (i := 19) rfl)
theorem dX4_readSum_35 : decode cX4_readSum 35 = .ok (.bipush 45, 2) := dgX4_readSum_0 (35, (.bipush 45, 2)) (List.mem_of_getElem? (i := 20) rfl)
theorem dX4_readSum_37 : decode cX4_readSum 37 = .ok (.invokevirtual 49, 3) := dgX4_readSum_0 (37, (.invokevirtual 49, 3)) (List.mem_of_getElem? (i := 21) rfl)
theorem dX4_readSum_40 : decode cX4_readSum 40 = .ok (.ifCond .eq 7, 3) := dgX4_readSum_0 (40, (.ifCond .eq 7, 3)) (List.mem_of_getElem? (i := 22) rfl)
theorem dX4_readSum_43 : decode cX4_readSum 43 = .ok (.iconst 3, 1) := dgX4_readSum_0 (43, (.iconst 3, 1)) (List.mem_of_getElem? (i := 23) rfl)
theorem dX4_readSum_44 : decode cX4_readSum 44 = .ok (.goto 30, 3) := dgX4_readSum_0 (44, (.goto 30, 3)) (List.mem_of_getElem? (i := 24) rfl)
theorem dX4_readSum_47 : decode cX4_readSum 47 = .ok (.aload_n 0, 1) := dgX4_readSum_0 (47, (.aload_n 0, 1)) (List.mem_of_getElem? (i := 25) rfl)
theorem dX4_readSum_48 : decode cX4_readSum 48 = .ok (.bipush 42, 2) := dgX4_readSum_0 (48, (.bipush 42, 2)) (List.mem_of_getElem? (i := 26) rfl)
theorem dX4_readSum_50 : decode cX4_readSum 50 = .ok (.invokevirtual 49, 3) := dgX4_readSum_0 (50, (.invokevirtual 49, 3)) (List.mem_of_getElem? (i := 27) rfl)
theorem dX4_readSum_53 : decode cX4_readSum 53 = .ok (.ifCond .eq 7, 3) := dgX4_readSum_0 (53, (.ifCond .eq 7, 3)) (List.mem_of_getElem? (i := 28) rfl)
theorem dX4_readSum_56 : decode cX4_readSum 56 = .ok (.iconst 4, 1) := dgX4_readSum_0 (56, (.iconst 4, 1)) (List.mem_of_getElem? (i := 29) rfl)
theorem dX4_readSum_57 : decode cX4_readSum 57 = .ok (.goto 17, 3) := dgX4_readSum_0 (57, (.goto 17, 3)) (List.mem_of_getElem? (i := 30) rfl)
theorem dX4_readSum_60 : decode cX4_readSum 60 = .ok (.aload_n 0, 1) := dgX4_readSum_0 (60, (.aload_n 0, 1)) (List.mem_of_getElem? (i := 31) rfl)
theorem dX4_readSum_61 : decode cX4_readSum 61 = .ok (.bipush 47, 2) := dgX4_readSum_0 (61, (.bipush 47, 2)) (List.mem_of_getElem? (i := 32) rfl)
theorem dX4_readSum_63 : decode cX4_readSum 63 = .ok (.invokevirtual 49, 3) := dgX4_readSum_0 (63, (.invokevirtual 49, 3)) (List.mem_of_getElem? (i := 33) rfl)
theorem dX4_readSum_66 : decode cX4_readSum 66 = .ok (.ifCond .eq 7, 3) := dgX4_readSum_0 (66, (.ifCond .eq 7, 3)) (List.mem_of_getElem? (i := 34) rfl)
theorem dX4_readSum_69 : decode cX4_readSum 69 = .ok (.iconst 5, 1) := dgX4_readSum_0 (69, (.iconst 5, 1)) (List.mem_of_getElem? (i := 35) rfl)
theorem dX4_readSum_70 : decode cX4_readSum 70 = .ok (.goto 4, 3) := dgX4_readSum_0 (70, (.goto 4, 3)) (List.mem_of_getElem? (i := 36) rfl)
theorem dX4_readSum_73 : decode cX4_readSum 73 = .ok (.iconst (-1), 1) := dgX4_readSum_0 (73, (.iconst (-1), 1)) (List.mem_of_getElem? (i := 37) rfl)
theorem dX4_readSum_74 : decode cX4_readSum 74 = .ok (.istore 4, 2) := dgX4_readSum_0 (74, (.istore 4, 2)) (List.mem_of_getElem? (i := 38) rfl)
theorem dX4_readSum_76 : decode cX4_readSum 76 = .ok (.iload 4, 2) := dgX4_readSum_0 (76, (.iload 4, 2)) (List.mem_of_getElem? (i := 39) rfl)
theorem dgX4_readSum_1 : ∀ r ∈ ([(78, (.iconst 2, 1)), (79, (.if_icmp .eq 9, 3)), (82, (.iload 4, 2)), (84, (.iconst 3, 1)), (85, (.if_icmp .ne 7, 3)), (88, (.iconst 1, 1)), (89, (.goto 4, 3)), (92, (.iconst 0, 1)), (93, (.istore 5, 2)), (95, (.iload_n 2, 1)), (96, (.iconst (-1), 1)), (97, (.if_icmp .eq 21, 3)), (100, (.iload 5, 2)), (102, (.ifCond .ne 9, 3)), (105, (.iload 4, 2)), (107, (.iconst (-1), 1)), (108, (.if_icmp .ne 10, 3)), (111, (.aload_n 0, 1)), (112, (.iload_n 2, 1)), (113, (.iconst 0, 1)), (114, (.invokevirtual 79, 3)), (117, (.pop, 1)), (118, (.iload 4, 2)), (120, (.iconst (-1), 1)), (121, (.if_icmp .ne 5, 3)), (124, (.iconst 1, 1)), (125, (.ireturn, 1)), (126, (.aload_n 0, 1)), (127, (.dup, 1)), (128, (.getfield 42, 3)), (131, (.iconst 1, 1)), (132, (.iadd, 1)), (133, (.putfield 42, 3)), (136, (.aload_n 0, 1)), (137, (.iload_n 1, 1)), (138, (.invokevirtual 90, 3)), (141, (.ifCond .ne 5, 3)), (144, (.iconst 0, 1)), (145, (.ireturn, 1)), (146, (.iload 5, 2))] : List (Nat × (Instr × Nat))), decode cX4_readSum r.1 = .ok r.2 := by decide +kernel
theorem dX4_readSum_78 : decode cX4_readSum 78 = .ok (.iconst 2, 1) := dgX4_readSum_1 (78, (.iconst 2, 1)) (List.mem_of_getElem? (i := 0) rfl)
theorem dX4_readSum_79 : decode cX4_readSum 79 = .ok (.if_icmp .eq 9, 3) := dgX4_readSum_1 (79, (.if_icmp .eq 9, 3)) (List.mem_of_getElem? (i := 1) rfl)
theorem dX4_readSum_82 : decode cX4_readSum 82 = .ok (.iload 4, 2) := dgX4_readSum_1 (82, (.iload 4, 2)) (List.mem_of_getElem? (i := 2) rfl)
theorem dX4_readSum_84 : decode cX4_readSum 84 = .ok (.iconst 3, 1) := dgX4_readSum_1 (84, (.iconst 3, 1)) (List.mem_of_getElem? (i := 3) rfl)
theorem dX4_readSum_85 : decode cX4_readSum 85 = .ok (.if_icmp .ne 7, 3) := dgX4_readSum_1 (85, (.if_icmp .ne 7, 3)) (List.mem_of_getElem? (i := 4) rfl)
theorem dX4_readSum_88 : decode cX4_readSum 88 = .ok (.iconst 1, 1) := dgX4_readSum_1 (88, (.iconst 1, 1)) (List.mem_of_getElem? (i := 5) rfl)
theorem dX4_readSum_89 : decode cX4_readSum 89 = .ok (.goto 4, 3) := dgX4_readSum_1 (89, (.goto 4, 3)) (List.mem_of_getElem? (i := 6) rfl)
theorem dX4_readSum_92 : decode cX4_readSum 92 = .ok (.iconst 0, 1) := dgX4_readSum_1 (92, (.iconst 0, 1)) (List.mem_of_getElem? (i := 7) rfl)
theorem dX4_readSum_93 : decode cX4_readSum 93 = .ok (.istore 5, 2) := dgX4_readSum_1 (93, (.istore 5, 2)) (List.mem_of_getElem? (i := 8) rfl)
theorem dX4_readSum_95 : decode cX4_readSum 95 = .ok (.iload_n 2, 1) := dgX4_readSum_1 (95, (.iload_n 2, 1)) (List.mem_of_getElem? (i := 9) rfl)
theorem dX4_readSum_96 : decode cX4_readSum 96 = .ok (.iconst (-1), 1) := dgX4_readSum_1 (96, (.iconst (-1), 1)) (List.mem_of_getElem? (i := 10) rfl)
theorem dX4_readSum_97 : decode cX4_readSum 97 = .ok (.if_icmp .eq 21, 3) := dgX4_readSum_1 (97, (.if_icmp .eq 21, 3)) (List.mem_of_getElem? (i := 11) rfl)
theorem dX4_readSum_100 : decode cX4_readSum 100 = .ok (.iload 5, 2) := dgX4_readSum_1 (100, (.iload 5, 2)) (List.mem_of_getElem? (i := 12) rfl)
theorem dX4_readSum_102 : decode cX4_readSum 102 = .ok (.ifCond .ne 9, 3) := dgX4_readSum_1 (102, (.ifCond .ne 9, 3)) (List.mem_of_getElem? (i := 13) rfl)
theorem dX4_readSum_105 : decode cX4_readSum 105 = .ok (.iload 4, 2) := dgX4_readSum_1 (105, (.iload 4, 2)) (List.mem_of_getElem? (i := 14) rfl)
theorem dX4_readSum_107 : decode cX4_readSum 107 = .ok (.iconst (-1), 1) := dgX4_readSum_1 (107, (.iconst (-1), 1)) (List.mem_of_getElem? (i := 15) rfl)
theorem dX4_readSum_108 : decode cX4_readSum 108 = .ok (.if_icmp .ne 10, 3) := dgX4_readSum_1 (108, (.if_icmp .ne 10, 3)) (List.mem_of_getElem? (i := 16) rfl)
theorem dX4_readSum_111 : decode cX4_readSum 111 = .ok (.aload_n 0, 1) := dgX4_readSum_1 (111, (.aload_n 0, 1)) (List.mem_of_getElem? (i := 17) rfl)
theorem dX4_readSum_112 : decode cX4_readSum 112 = .ok (.iload_n 2, 1) := dgX4_readSum_1 (112, (.iload_n 2, 1)) (List.mem_of_getElem? (i := 18) rfl)
theorem dX4_readSum_113 : decode cX4_readSum 113 = .ok (.iconst 0, 1) := dgX4_readSum_1 (113, (.iconst 0, 1)) (List.mem_of_getElem? (i := 19) rfl)
theorem dX4_readSum_114 : decode cX4_readSum 114 = .ok (.invokevirtual 79, 3) := dgX4_readSum_1 (114, (.invokevirtual 79, 3)) (List.mem_of_getElem? (i := 20) rfl)
theorem dX4_readSum_117 : decode cX4_readSum 117 = .ok (.pop, 1) := dgX4_readSum_1 (117, (.pop, 1)) (List.mem_of_getElem? (i := 21) rfl)
theorem dX4_readSum_118 : decode cX4_readSum 118 = .ok (.iload 4, 2) := dgX4_readSum_1 (118, (.iload 4, 2)) (List.mem_of_getElem? (i := 22) rfl)
theorem dX4_readSum_120 : decode cX4_readSum 120 = .ok (.iconst (-1), 1) := dgX4_readSum_1 (120, (.iconst (-1), 1)) (List.mem_of_getElem? (i := 23) rfl)
theorem dX4_readSum_121 : decode cX4_readSum 121 = .ok (.if_icmp .ne 5, 3) := dgX4_readSum_1 (121, (.if_icmp .ne 5, 3)) (List.mem_of_getElem? (i := 24) rfl)
theorem dX4_readSum_124 : decode cX4_readSum 124 = .ok (.iconst 1, 1) := dgX4_readSum_1 (124, (.iconst 1, 1)) (List.mem_of_getElem? (i := 25) rfl)
theorem dX4_readSum_125 : decode cX4_readSum 125 = .ok (.ireturn, 1) := dgX4_readSum_1 (125, (.ireturn, 1)) (List.mem_of_getElem? (i := 26) rfl)
theorem dX4_readSum_126 : decode cX4_readSum 126 = .ok (.aload_n 0, 1) := dgX4_readSum_1 (126, (.aload_n 0, 1)) (List.mem_of_getElem? (i := 27) rfl)
theorem dX4_readSum_127 : decode cX4_readSum 127 = .ok (.dup, 1) := dgX4_readSum_1 (127, (.dup, 1)) (List.mem_of_getElem? (i := 28) rfl)
theorem dX4_readSum_128 : decode cX4_readSum 128 = .ok (.getfield 42, 3) := dgX4_readSum_1 (128, (.getfield 42, 3)) (List.mem_of_getElem? (i := 29) rfl)
theorem dX4_readSum_131 : decode cX4_readSum 131 = .ok (.iconst 1, 1) := dgX4_readSum_1 (131, (.iconst 1, 1)) (List.mem_of_getElem? (i := 30) rfl)
theorem dX4_readSum_132 : decode cX4_readSum 132 = .ok (.iadd, 1) := dgX4_readSum_1 (132, (.iadd, 1)) (List.mem_of_getElem? (i := 31) rfl)
theorem dX4_readSum_133 : decode cX4_readSum 133 = .ok (.putfield 42, 3) := dgX4_readSum_1 (133, (.putfield 42, 3)) (List.mem_of_getElem? (i := 32) rfl)
theorem dX4_readSum_136 : decode cX4_readSum 136 = .ok (.aload_n 0, 1) := dgX4_readSum_1 (136, (.aload_n 0, 1)) (List.mem_of_getElem? (i := 33) rfl)
theorem dX4_readSum_137 : decode cX4_readSum 137 = .ok (.iload_n 1, 1) := dgX4_readSum_1 (137, (.iload_n 1, 1)) (List.mem_of_getElem? (i := 34) rfl)
theorem dX4_readSum_138 : decode cX4_readSum 138 = .ok (.invokevirtual 90, 3) := dgX4_readSum_1 (138, (.invokevirtual 90, 3)) (List.mem_of_getElem? (i := 35) rfl)
theorem dX4_readSum_141 : decode cX4_readSum 141 = .ok (.ifCond .ne 5, 3) := dgX4_readSum_1 (141, (.ifCond .ne 5, 3)) (List.mem_of_getElem? (i := 36) rfl)
theorem dX4_readSum_144 : decode cX4_readSum 144 = .ok (.iconst 0, 1) := dgX4_readSum_1 (144, (.iconst 0, 1)) (List.mem_of_getElem? (i := 37) rfl)
theorem dX4_readSum_145 : decode cX4_readSum 145 = .ok (.ireturn, 1) := dgX4_readSum_1 (145, (.ireturn, 1)) (List.mem_of_getElem? (i := 38) rfl)
theorem dX4_readSum_146 : decode cX4_readSum 146 = .ok (.iload 5, 2) := dgX4_readSum_1 (146, (.iload 5, 2)) (List.mem_of_getElem? (i := 39) rfl)
theorem dgX4_readSum_2 : ∀ r ∈ ([(148, (.ifCond .eq 9, 3)), (151, (.iload 4, 2)), (153, (.istore_n 2, 1)), (154, (.goto 11, 3)), (157, (.aload_n 0, 1)), (158, (.iload 4, 2)), (160, (.iconst 0, 1)), (161, (.invokevirtual 79, 3)), (164, (.pop, 1)), (165, (.iinc 3 1, 3)), (168, (.goto (-154), 3)), (171, (.iconst 0, 1)), (172, (.ireturn, 1))] : List (Nat × (Instr × Nat))), decode cX4_readSum r.1 = .ok r.2 := by decide +kernel
theorem dX4_readSum_148 : decode cX4_readSum 148 = .ok (.ifCond .eq 9, 3) := dgX4_readSum_2 (148, (.ifCond .eq 9, 3)) (List.mem_of_getElem? (i := 0) rfl)
theorem dX4_readSum_151 : decode cX4_readSum 151 = .ok (.iload 4, 2) := dgX4_readSum_2 (151, (.iload 4, 2)) (List.mem_of_getElem? (i := 1) rfl)
theorem dX4_readSum_153 : decode cX4_readSum 153 = .ok (.istore_n 2, 1) := dgX4_readSum_2 (153, (.istore_n 2, 1)) (List.mem_of_getElem? (i := 2) rfl)
theorem dX4_readSum_154 : decode cX4_readSum 154 = .ok (.goto 11, 3) := dgX4_readSum_2 (154, (.goto 11, 3)) (List.mem_of_getElem? (i := 3) rfl)
theorem dX4_readSum_157 : decode cX4_readSum 157 = .ok (.aload_n 0, 1) := dgX4_readSum_2 (157, (.aload_n 0, 1)) (List.mem_of_getElem? (i := 4) rfl)
theorem dX4_readSum_158 : decode cX4_readSum 158 = .ok (.iload 4, 2) := dgX4_readSum_2 (158, (.iload 4, 2)) (List.mem_of_getElem? (i := 5) rfl)
theorem dX4_readSum_160 : decode cX4_readSum 160 = .ok (.iconst 0, 1) := dgX4_readSum_2 (160, (.iconst 0, 1)) (List.mem_of_getElem? (i := 6) rfl)
theorem dX4_readSum_161 : decode cX4_readSum 161 = .ok (.invokevirtual 79, 3) := dgX4_readSum_2 (161, (.invokevirtual 79, 3)) (List.mem_of_getElem? (i := 7) rfl)
theorem dX4_readSum_164 : decode cX4_readSum 164 = .ok (.pop, 1) := dgX4_readSum_2 (164, (.pop, 1)) (List.mem_of_getElem? (i := 8) rfl)
theorem dX4_readSum_165 : decode cX4_readSum 165 = .ok (.iinc 3 1, 3) := dgX4_readSum_2 (165, (.iinc 3 1, 3)) (List.mem_of_getElem? (i := 9) rfl)
theorem dX4_readSum_168 : decode cX4_readSum 168 = .ok (.goto (-154), 3) := dgX4_readSum_2 (168, (.goto (-154), 3)) (List.mem_of_getElem? (i := 10) rfl)
theorem dX4_readSum_171 : decode cX4_readSum 171 = .ok (.iconst 0, 1) := dgX4_readSum_2 (171, (.iconst 0, 1)) (List.mem_of_getElem? (i := 11) rfl)
theorem dX4_readSum_172 : decode cX4_readSum 172 = .ok (.ireturn, 1) := dgX4_readSum_2 (172, (.ireturn, 1)) (List.mem_of_getElem? (i := 12) rfl)
theorem ml_X4_90 : Cond.methodLink RX4 90 yX4_readPart ∈ tblG := tg 728 (by decide +kernel) (by decide +kernel)
theorem im_X4_readPart : Cond.instanceMethod yX4_readPart ∈ tblG := tg 730 (by decide +kernel) (by decide +kernel)
theorem se_X4_readPart : Cond.selects RX4 yX4_readPart yX4_readPart ∈ tblG := tg 6 (by decide +kernel) (by decide +kernel)
theorem cd_X4_readPart : Cond.code yX4_readPart cX4_readPart 4 (some .boolean) ∈ tblG := tg 731 (by decide +kernel) (by decide +kernel)
theorem gW_X4_readPart : GoodIn tblG (wsG yX4_readPart cX4_readPart 4 (some .boolean)) := tgi cd_X4_readPart
theorem gV_X4_90 : GoodIn tblG (wsV RX4 90 RX4 yX4_readPart (wsG yX4_readPart cX4_readPart 4 (some .boolean))) := tgV ml_X4_90 im_X4_readPart se_X4_readPart ini_X4 gW_X4_readPart
theorem hv_X4_readPart : yX4_readPart.cls = RX4 ∧ yX4_readPart.cls ≠ "java/lang/invoke/MethodHandle" ∧ yX4_readPart.cls ≠ "java/lang/invoke/VarHandle" ∧ (parseMethodDescriptor yX4_readPart.desc).map (fun d => d.parameters.length) = some 1 := by decide +kernel
set_option maxHeartbeats 4000000 in
set_option maxRecDepth 100000 in
theorem r_sum (fr lo : Nat) (p_d : Int32) (h_p_d : 0 ≤ p_d.toInt ∧ p_d.toInt ≤ 8) (h_sum : ∀ x : Int32, x.toInt = p_d.toInt + 1 → p_d.toInt < 8 → ∀ (l : Launch) (G : g5_G) (a_r a_tk a_kd a_nm a_rc a_rh a_rs a_pl : Nat) (sz : Nat) (e_ln : Int32) (e_pa : Int32) (e_at : Int32) (e_fp : Int32) (f_kd : Nat → Int32) (f_nm : Nat → Int32) (f_rc : Nat → Int32) (h_e_ln : 0 ≤ e_ln.toInt ∧ e_ln.toInt ≤ 400) (h_e_pa : 0 ≤ e_pa.toInt ∧ e_pa.toInt ≤ 50) (h_e_at : 0 ≤ e_at.toInt ∧ e_at.toInt ≤ 401) (e_tk : TOKI f_kd f_nm) (e_cd : CDI f_rc e_ln.toInt), Met l yX4_readSum (wsG yX4_readSum cX4_readSum 6 (some .boolean)) ({ frames := fr + 0, cells := 0, slots := 0, locals := lo + 0 }) (va_Pc [.ref a_r, .int x] (g5_P G [(a_r, (oc4 a_tk a_rh a_rs a_rc e_ln e_pa e_at e_fp)), (a_tk, (oc8 a_kd a_nm a_pl)), (a_kd, (arI G 401 f_kd)), (a_nm, (arI G 401 f_nm)), (a_rc, (arI G 400 f_rc))] sz)) (va_Qi (fun (r : Int32) (u : va_W) => (∃ (o_r : Int32) (o_ln : Int32) (o_pa : Int32) (o_at : Int32) (o_rc : Nat → Int32), (0 ≤ o_r.toInt ∧ o_r.toInt ≤ 1) ∧ (e_ln.toInt ≤ o_ln.toInt ∧ o_ln.toInt ≤ 400) ∧ (0 ≤ o_at.toInt ∧ o_at.toInt ≤ 401) ∧ (0 ≤ o_pa.toInt ∧ o_pa.toInt ≤ 50) ∧ (CDI o_rc o_ln.toInt) ∧ (OPK f_rc o_rc e_ln.toInt) ∧ (r = o_r) ∧ (u = [(a_r, (oc4 a_tk a_rh a_rs a_rc o_ln o_pa o_at e_fp)), (a_tk, (oc8 a_kd a_nm a_pl)), (a_kd, (arI G 401 f_kd)), (a_nm, (arI G 401 f_nm)), (a_rc, (arI G 400 o_rc))]))) (g5_B G (va_A [(a_r, (oc4 a_tk a_rh a_rs a_rc e_ln e_pa e_at e_fp)), (a_tk, (oc8 a_kd a_nm a_pl)), (a_kd, (arI G 401 f_kd)), (a_nm, (arI G 401 f_nm)), (a_rc, (arI G 400 f_rc))] sz)) (va_A [(a_r, (oc4 a_tk a_rh a_rs a_rc e_ln e_pa e_at e_fp)), (a_tk, (oc8 a_kd a_nm a_pl)), (a_kd, (arI G 401 f_kd)), (a_nm, (arI G 401 f_nm)), (a_rc, (arI G 400 f_rc))] sz)) 0 0 (va_A [(a_r, (oc4 a_tk a_rh a_rs a_rc e_ln e_pa e_at e_fp)), (a_tk, (oc8 a_kd a_nm a_pl)), (a_kd, (arI G 401 f_kd)), (a_nm, (arI G 401 f_nm)), (a_rc, (arI G 400 f_rc))] sz)) (l : Launch) (G : g5_G) (a_r a_tk a_kd a_nm a_rc a_rh a_rs a_pl : Nat) (sz : Nat) (e_ln : Int32) (e_pa : Int32) (e_at : Int32) (e_fp : Int32) (f_kd : Nat → Int32) (f_nm : Nat → Int32) (f_rc : Nat → Int32) (h_e_ln : 0 ≤ e_ln.toInt ∧ e_ln.toInt ≤ 400) (h_e_pa : 0 ≤ e_pa.toInt ∧ e_pa.toInt ≤ 50) (h_e_at : 0 ≤ e_at.toInt ∧ e_at.toInt ≤ 401) (e_tk : TOKI f_kd f_nm) (e_cd : CDI f_rc e_ln.toInt) : Met l yX4_readSum (wsG yX4_readSum cX4_readSum 6 (some .boolean)) ({ frames := fr + 2, cells := 0, slots := 0, locals := lo + 48 }) (va_Pc [.ref a_r, .int p_d] (g5_P G [(a_r, (oc4 a_tk a_rh a_rs a_rc e_ln e_pa e_at e_fp)), (a_tk, (oc8 a_kd a_nm a_pl)), (a_kd, (arI G 401 f_kd)), (a_nm, (arI G 401 f_nm)), (a_rc, (arI G 400 f_rc))] sz)) (va_Qi (fun (r : Int32) (u : va_W) => (∃ (o_r : Int32) (o_ln : Int32) (o_pa : Int32) (o_at : Int32) (o_rc : Nat → Int32), (0 ≤ o_r.toInt ∧ o_r.toInt ≤ 1) ∧ (e_ln.toInt ≤ o_ln.toInt ∧ o_ln.toInt ≤ 400) ∧ (0 ≤ o_at.toInt ∧ o_at.toInt ≤ 401) ∧ (0 ≤ o_pa.toInt ∧ o_pa.toInt ≤ 50) ∧ (CDI o_rc o_ln.toInt) ∧ (OPK f_rc o_rc e_ln.toInt) ∧ (r = o_r) ∧ (u = [(a_r, (oc4 a_tk a_rh a_rs a_rc o_ln o_pa o_at e_fp)), (a_tk, (oc8 a_kd a_nm a_pl)), (a_kd, (arI G 401 f_kd)), (a_nm, (arI G 401 f_nm)), (a_rc, (arI G 400 o_rc))]))) (g5_B G (va_A [(a_r, (oc4 a_tk a_rh a_rs a_rc e_ln e_pa e_at e_fp)), (a_tk, (oc8 a_kd a_nm a_pl)), (a_kd, (arI G 401 f_kd)), (a_nm, (arI G 401 f_nm)), (a_rc, (arI G 400 f_rc))] sz)) (va_A [(a_r, (oc4 a_tk a_rh a_rs a_rc e_ln e_pa e_at e_fp)), (a_tk, (oc8 a_kd a_nm a_pl)), (a_kd, (arI G 401 f_kd)), (a_nm, (arI G 401 f_nm)), (a_rc, (arI G 400 f_rc))] sz)) 0 0 (va_A [(a_r, (oc4 a_tk a_rh a_rs a_rc e_ln e_pa e_at e_fp)), (a_tk, (oc8 a_kd a_nm a_pl)), (a_kd, (arI G 401 f_kd)), (a_nm, (arI G 401 f_nm)), (a_rc, (arI G 400 f_rc))] sz) := by
  refine Met.ofW (cc := cX4_readSum) (maxL := 6) (ret := (some .boolean)) (by decide) rfl ?_
  intro p e s m args below meth c s₁ B hml hv
  obtain ⟨rfl, hsz, hP, hK, hD0, hN, hT⟩ := hv
  have hx := B.exec
  have hb := B.bytes
  have hr := B.returns
  have hts : ∀ w ∈ tblG, w.before _ s = true := fun w h => atoms_spec (ws := (wsG yX4_readSum cX4_readSum 6 (some .boolean))) B.pre w (List.mem_cons_of_mem _ h)
  have hown : s.vm.findClass RX4 = some m.cls := findClass_of_methodNamed B.named
  have hlocks := B.notSynchronized
  subst hsz
  have hD := hD0.self (sz := s.heap.size)
  generalize hAe : va_A [(a_r, (oc4 a_tk a_rh a_rs a_rc e_ln e_pa e_at e_fp)), (a_tk, (oc8 a_kd a_nm a_pl)), (a_kd, (arI G 401 f_kd)), (a_nm, (arI G 401 f_nm)), (a_rc, (arI G 400 f_rc))] s.heap.size = A at hD hT ⊢
  have hA : ∀ q : Nat, s.heap.size ≤ q → A q := fun q h => by rw [← hAe]; exact Or.inr h
  have hS : va_S A s.heap s.heap [] := va_S.rf
  have hP : va_P G.1 vwCl [(a_r, (oc4 a_tk a_rh a_rs a_rc e_ln e_pa e_at e_fp)), (a_tk, (oc8 a_kd a_nm a_pl)), (a_kd, (arI G 401 f_kd)), (a_nm, (arI G 401 f_nm)), (a_rc, (arI G 400 f_rc))] s.heap := hP
  have hl := lv_entry ([.ref a_r, .int p_d]) (n := 6) (Nat.le_of_ble_eq_true rfl)
  rw [lg_entry_eq]
  generalize (lg_sl ([.ref a_r, .int p_d]) ++ List.replicate (6 - (lg_sl ([.ref a_r, .int p_d])).length) Slot.unset).toArray = ls at hl ⊢
  have hl : lv_has ls 6 [(0, .ref a_r), (1, .int p_d)] := hl
  refine lv_aload_n hx hb dX4_readSum_0 rfl (lv_at hl 0 rfl) ?_
  refine lv_iload_n hx hb dX4_readSum_1 rfl (lv_at hl 1 rfl) ?_
  obtain ⟨hPc, hDc, hFc⟩ := g5_sub3 (wc := [(a_r, (oc4 a_tk a_rh a_rs a_rc e_ln e_pa e_at e_fp)), (a_tk, (oc8 a_kd a_nm a_pl)), (a_kd, (arI G 401 f_kd)), (a_nm, (arI G 401 f_nm)), (a_rc, (arI G 400 f_rc))]) hP hD hS hA [0, 1, 2, 3, 4] (by decide) rfl
  refine va_calli (va_runV (As := [.int p_d]) (rest := []) ⟨hx, hb, hml, hown, hts⟩ ((r_part fr lo p_d h_p_d h_sum) l G a_r a_tk a_kd a_nm a_rc a_rh a_rs a_pl s.heap.size e_ln e_pa e_at e_fp f_kd f_nm f_rc h_e_ln h_e_pa h_e_at (e_tk) (e_cd)) (cwV 1 hts gV_X4_90 rfl rfl rfl hv_X4_readPart ⟨by simp only [headSpec]; omega, by simp only [headSpec]; omega⟩) (g5_preV hPc hK hDc hN hT hS hFc (ci := 4) (q0 := 0) rfl rfl) rfl rfl hl.1 rfl (lv_room (Nat.le_of_ble_eq_true rfl)) dX4_readSum_2 ⟨Nat.le_of_ble_eq_true rfl, Nat.le_of_ble_eq_true rfl⟩) hS (fun q _ h => hFc q h) hFc (fun r u t H1 locs ht hvm hw hB hz1 hk1 hS => ?_)
  obtain ⟨hP1, hD1⟩ := hB
  rw [ht] at hP1
  obtain ⟨z7, z8, z9, z10, z11, i_1, i_2, i_3, i_4, i_5, i_6, y12, rfl⟩ := hw
  have i_1 : 0 ≤ z7.toInt ∧ z7.toInt ≤ 1 := i_1
  have i_2 : e_ln.toInt ≤ z8.toInt ∧ z8.toInt ≤ 400 := i_2
  have i_3 : 0 ≤ z10.toInt ∧ z10.toInt ≤ 401 := i_3
  have i_4 : 0 ≤ z9.toInt ∧ z9.toInt ≤ 50 := i_4
  have i_5 : CDI z11 z8.toInt := i_5
  have i_6 : OPK f_rc z11 e_ln.toInt := i_6
  obtain ⟨hP, hD⟩ := va_join (wr := []) hP hD [0, 1, 2, 3, 4] [] rfl rfl (by decide) (by decide) hk1 hFc hP1 hD1
  generalize H1 = H at hP hS ⊢
  refine g5_rs [(a_r, (oc4 a_tk a_rh a_rs a_rc z8 z9 z10 e_fp)), (a_tk, (oc8 a_kd a_nm a_pl)), (a_kd, (arI G 401 f_kd)), (a_nm, (arI G 401 f_nm)), (a_rc, (arI G 400 z11))] hP hD (fun hP hD => ?_)
  refine g5_ti (v := z7) y12 ?_
  refine lv_if_ne (tgt := 10) hx hb dX4_readSum_5 (by decide) (fun c_13 => ?_) (fun c_13 => ?_)
  ·
    have n_13 : gNe (z7.toInt) (0) := by have z := g5_ne (a := z7.toInt) (b := 0) (by rfl) (by decide) c_13; unfold gNe; omega
    have i_13 : z7.toInt ≥ 1 := by have z := g5_ne (a := z7.toInt) (b := 0) (by rfl) (by decide) c_13; omega
    refine lv_iconst (v := (-1)) hx hb dX4_readSum_10 (by decide) ?_
    refine lv_istore_n (lv' := [(2, .int (-1)), (0, .ref a_r), (1, .int p_d)]) hx hb dX4_readSum_11 rfl hl (by decide) rfl (fun ls hl => ?_)
    refine lv_iconst (v := 0) hx hb dX4_readSum_12 (by decide) ?_
    refine lv_istore_n (lv' := [(3, .int 0), (2, .int (-1)), (0, .ref a_r), (1, .int p_d)]) hx hb dX4_readSum_13 rfl hl (by decide) rfl (fun ls hl => ?_)
    refine g5_loop (α := (Int32) × (Int32) × (Int32) × (Int32) × (Int32) × (Nat → Int32)) (fun (q : (Int32) × (Int32) × (Int32) × (Int32) × (Int32) × (Nat → Int32)) (ls : Array Slot) (H : Heap) (locs : List Loc) => match q with | (k_w, k_i, k_ln, k_pa, k_at, k_rc) => lv_has ls 6 [(2, .int k_w), (3, .int k_i), (0, .ref a_r), (1, .int p_d)] ∧ va_P G.1 vwCl [(a_r, (oc4 a_tk a_rh a_rs a_rc k_ln k_pa k_at e_fp)), (a_tk, (oc8 a_kd a_nm a_pl)), (a_kd, (arI G 401 f_kd)), (a_nm, (arI G 401 f_nm)), (a_rc, (arI G 400 k_rc))] H ∧ va_D A [(a_r, (oc4 a_tk a_rh a_rs a_rc k_ln k_pa k_at e_fp)), (a_tk, (oc8 a_kd a_nm a_pl)), (a_kd, (arI G 401 f_kd)), (a_nm, (arI G 401 f_nm)), (a_rc, (arI G 400 k_rc))] ∧ va_S A s.heap H locs ∧ ((-1) ≤ k_w.toInt ∧ k_w.toInt ≤ 3) ∧ (0 ≤ k_i.toInt ∧ k_i.toInt ≤ 400) ∧ (0 ≤ k_ln.toInt ∧ k_ln.toInt ≤ 400) ∧ (0 ≤ k_pa.toInt ∧ k_pa.toInt ≤ 50) ∧ (0 ≤ k_at.toInt ∧ k_at.toInt ≤ 401) ∧ (e_ln.toInt ≤ k_ln.toInt) ∧ (CDI k_rc k_ln.toInt) ∧ (OPK f_rc k_rc e_ln.toInt) ∧ (k_w.toInt = -1 ∨ k_w.toInt = 2 ∨ k_w.toInt = 3)) (fun (q : (Int32) × (Int32) × (Int32) × (Int32) × (Int32) × (Nat → Int32)) => match q with | (k_w, k_i, k_ln, k_pa, k_at, k_rc) => Int.toNat (400 - k_i.toInt)) ((-1), 0, z8, z9, z10, z11) ⟨lv_sub hl [1, 0, 2, 3] rfl, hP, hD, hS, ⟨by decide, by decide⟩, ⟨by decide, by decide⟩, ⟨by omega, by omega⟩, i_4, i_3, by omega, i_5, i_6, Or.inl (by decide)⟩ ?_
    rintro ⟨k_w, k_i, k_ln, k_pa, k_at, k_rc⟩ ls H locs ⟨hl, hP, hD, hS, i_14, i_15, i_16, i_17, i_18, i_19, i_20, i_21, i_22⟩ ih_14_23
    have hl : lv_has ls 6 [(2, .int k_w), (3, .int k_i), (0, .ref a_r), (1, .int p_d)] := hl
    have i_14 : (-1) ≤ k_w.toInt ∧ k_w.toInt ≤ 3 := i_14
    have i_15 : 0 ≤ k_i.toInt ∧ k_i.toInt ≤ 400 := i_15
    have i_16 : 0 ≤ k_ln.toInt ∧ k_ln.toInt ≤ 400 := i_16
    have i_17 : 0 ≤ k_pa.toInt ∧ k_pa.toInt ≤ 50 := i_17
    have i_18 : 0 ≤ k_at.toInt ∧ k_at.toInt ≤ 401 := i_18
    have i_19 : e_ln.toInt ≤ k_ln.toInt := i_19
    have i_20 : CDI k_rc k_ln.toInt := i_20
    have i_21 : OPK f_rc k_rc e_ln.toInt := i_21
    have i_22 : k_w.toInt = -1 ∨ k_w.toInt = 2 ∨ k_w.toInt = 3 := i_22
    refine g5_rs [(a_r, (oc4 a_tk a_rh a_rs a_rc k_ln k_pa k_at e_fp)), (a_tk, (oc8 a_kd a_nm a_pl)), (a_kd, (arI G 401 f_kd)), (a_nm, (arI G 401 f_nm)), (a_rc, (arI G 400 k_rc))] hP hD (fun hP hD => ?_)
    refine lv_iload_n hx hb dX4_readSum_14 rfl (lv_at hl 1 rfl) ?_
    refine lv_sipush (v := 400) hx hb dX4_readSum_15 (by decide) ?_
    refine lv_icmp_ge (tgt := 171) hx hb dX4_readSum_18 (by decide) (fun c_24 => ?_) (fun c_24 => ?_)
    ·
      have i_24 : k_i.toInt ≥ 400 := by have z := g5_ge (a := k_i.toInt) (b := 400) (by rfl) (by decide) c_24; omega
      refine lv_iconst (v := 0) hx hb dX4_readSum_171 (by decide) ?_
      exact W.zret (v := 0) hx hb hr rfl (fun t ht hW => ⟨⟨0, [(a_r, (oc4 a_tk a_rh a_rs a_rc k_ln k_pa k_at e_fp)), (a_tk, (oc8 a_kd a_nm a_pl)), (a_kd, (arI G 401 f_kd)), (a_nm, (arI G 401 f_nm)), (a_rc, (arI G 400 k_rc))], rfl, ⟨0, k_ln, k_pa, k_at, k_rc, ⟨by have zc_o_r : (0 : Int32).toInt = 0 := (by decide); omega, by have zc_o_r : (0 : Int32).toInt = 0 := (by decide); omega⟩, ⟨by omega, by omega⟩, i_18, i_17, i_20, i_21, rfl, rfl⟩, by rw [ht]; exact hP.sub [0, 1, 2, 3, 4] rfl, hD.sub [0, 1, 2, 3, 4] (by decide) rfl⟩, hS.F ht⟩) hS.2.2 dX4_readSum_172
    ·
      have i_24 : k_i.toInt < 400 := by have z := g5_geN (a := k_i.toInt) (b := 400) (by rfl) (by decide) c_24; omega
      refine lv_aload_n hx hb dX4_readSum_21 rfl (lv_at hl 2 rfl) ?_
      refine lv_bipush (v := 43) hx hb dX4_readSum_22 (by decide) ?_
      obtain ⟨hPc, hDc, hFc⟩ := g5_sub3 (wc := [(a_r, (oc4 a_tk a_rh a_rs a_rc k_ln k_pa k_at e_fp)), (a_tk, (oc8 a_kd a_nm a_pl)), (a_kd, (arI G 401 f_kd))]) hP hD hS hA [0, 1, 2] (by decide) rfl
      refine va_calli (va_runV (As := [.int 43]) (rest := []) ⟨hx, hb, hml, hown, hts⟩ (r_isNext l G a_r a_tk a_kd a_rh a_rs a_rc a_nm a_pl H.size k_ln k_pa k_at e_fp 43 f_kd i_16 i_17 i_18) (cwV 1 hts gV_X4_49 rfl rfl rfl hv_X4_isNext ⟨by simp only [headSpec]; omega, by simp only [headSpec]; omega⟩) (g5_preV hPc hK hDc hN hT hS hFc (ci := 4) (q0 := 0) rfl rfl) rfl rfl hl.1 rfl (lv_room (Nat.le_of_ble_eq_true rfl)) dX4_readSum_24 ⟨Nat.le_of_ble_eq_true rfl, Nat.le_of_ble_eq_true rfl⟩) hS (fun q _ h => hFc q h) hFc (fun r u t H1 locs ht hvm hw hB hz1 hk1 hS => ?_)
      obtain ⟨hP1, hD1⟩ := hB
      rw [ht] at hP1
      rcases hw with ⟨i_25, i_26, rfl, rfl⟩ | ⟨rfl, rfl⟩
      ·
        have i_25 : k_at.toInt ≤ 400 := i_25
        have i_26 : f_kd k_at.toNatClampNeg = (43 : Int32) := i_26
        obtain ⟨hP, hD⟩ := va_join (wr := [(a_nm, (arI G 401 f_nm)), (a_rc, (arI G 400 k_rc))]) hP hD [0, 1, 2] [3, 4] rfl rfl (by decide) (by decide) hk1 hFc hP1 hD1
        generalize H1 = H at hP hS ⊢
        refine g5_rs [(a_nm, (arI G 401 f_nm)), (a_rc, (arI G 400 k_rc)), (a_r, (oc4 a_tk a_rh a_rs a_rc k_ln k_pa k_at e_fp)), (a_tk, (oc8 a_kd a_nm a_pl)), (a_kd, (arI G 401 f_kd))] hP hD (fun hP hD => ?_)
        refine lv_if_eq (tgt := 34) hx hb dX4_readSum_27 (by decide) (fun c_27 => ?_) (fun c_27 => ?_)
        ·
          exact absurd c_27 (by decide)
        ·
          refine lv_iconst (v := 2) hx hb dX4_readSum_30 (by decide) ?_
          refine lv_goto (tgt := 74) hx hb dX4_readSum_31 (by decide) ?_
          refine lv_istore (lv' := [(4, .int 2), (2, .int k_w), (3, .int k_i), (0, .ref a_r), (1, .int p_d)]) hx hb dX4_readSum_74 hl (by decide) rfl (fun ls hl => ?_)
          refine lv_iload hx hb dX4_readSum_76 (lv_at hl 0 rfl) ?_
          refine lv_iconst (v := 2) hx hb dX4_readSum_78 (by decide) ?_
          refine lv_icmp_eq (tgt := 88) hx hb dX4_readSum_79 (by decide) (fun c_28 => ?_) (fun c_28 => ?_)
          ·
            refine lv_iconst (v := 1) hx hb dX4_readSum_88 (by decide) ?_
            refine lv_goto (tgt := 93) hx hb dX4_readSum_89 (by decide) ?_
            refine lv_istore (lv' := [(5, .int 1), (4, .int 2), (2, .int k_w), (3, .int k_i), (0, .ref a_r), (1, .int p_d)]) hx hb dX4_readSum_93 hl (by decide) rfl (fun ls hl => ?_)
            refine lv_iload_n hx hb dX4_readSum_95 rfl (lv_at hl 2 rfl) ?_
            refine lv_iconst (v := (-1)) hx hb dX4_readSum_96 (by decide) ?_
            refine lv_icmp_eq (tgt := 118) hx hb dX4_readSum_97 (by decide) (fun c_29 => ?_) (fun c_29 => ?_)
            ·
              have i_29 : k_w.toInt = (-1) := by have z := g5_eq (a := k_w.toInt) (b := (-1)) (by rfl) (by decide) c_29; omega
              refine lv_iload hx hb dX4_readSum_118 (lv_at hl 1 rfl) ?_
              refine lv_iconst (v := (-1)) hx hb dX4_readSum_120 (by decide) ?_
              refine lv_icmp_ne (tgt := 126) hx hb dX4_readSum_121 (by decide) (fun c_30 => ?_) (fun c_30 => ?_)
              ·
                refine lv_aload_n hx hb dX4_readSum_126 rfl (lv_at hl 4 rfl) ?_
                refine lv_dup hx hb dX4_readSum_127 rfl ?_
                refine va_get (D := G.1) (ci := 4) (v := .int k_at) (C := RX4) (T := TX4) (N := 8) hx hb hts inG_X4 hown hK hP 2 rfl rfl 6 (by decide) (hts _ fl_X4_42) (fun _ h9 => h9) rfl dX4_readSum_128 ?_
                refine lv_iconst (v := 1) hx hb dX4_readSum_131 (by decide) ?_
                refine lv_iadd hx hb dX4_readSum_132 ?_
                have t_31 : (k_at + 1).toInt = k_at.toInt + 1 := g5_iadd (a := k_at.toInt) (b := 1) (by rfl) (by decide) (by omega) (by omega)
                refine va_put (D := G.1) (ci := 4) (v := .int (k_at + 1)) (ty := .int) (C := RX4) (T := TX4) (N := 8) hx hb hts inG_X4 tyX4 tyX4_ok nmX4 hown hK hP hD hS 2 rfl rfl 6 (by decide) (hts _ fl_X4_42) (fun _ h9 => h9) rfl (by decide +kernel) rfl rfl (Nat.le_of_ble_eq_true rfl) dX4_readSum_133 (fun H locs hP hD hS => ?_)
                refine g5_rs [(a_nm, (arI G 401 f_nm)), (a_rc, (arI G 400 k_rc)), (a_r, (oc4 a_tk a_rh a_rs a_rc k_ln k_pa (k_at + 1) e_fp)), (a_tk, (oc8 a_kd a_nm a_pl)), (a_kd, (arI G 401 f_kd))] hP hD (fun hP hD => ?_)
                refine lv_aload_n hx hb dX4_readSum_136 rfl (lv_at hl 4 rfl) ?_
                refine lv_iload_n hx hb dX4_readSum_137 rfl (lv_at hl 5 rfl) ?_
                obtain ⟨hPc, hDc, hFc⟩ := g5_sub3 (wc := [(a_r, (oc4 a_tk a_rh a_rs a_rc k_ln k_pa (k_at + 1) e_fp)), (a_tk, (oc8 a_kd a_nm a_pl)), (a_kd, (arI G 401 f_kd)), (a_nm, (arI G 401 f_nm)), (a_rc, (arI G 400 k_rc))]) hP hD hS hA [2, 3, 4, 0, 1] (by decide) rfl
                refine va_calli (va_runV (As := [.int p_d]) (rest := []) ⟨hx, hb, hml, hown, hts⟩ ((r_part fr lo p_d h_p_d h_sum) l G a_r a_tk a_kd a_nm a_rc a_rh a_rs a_pl H.size k_ln k_pa (k_at + 1) e_fp f_kd f_nm k_rc i_16 i_17 ⟨by omega, by omega⟩ (e_tk) (i_20)) (cwV 1 hts gV_X4_90 rfl rfl rfl hv_X4_readPart ⟨by simp only [headSpec]; omega, by simp only [headSpec]; omega⟩) (g5_preV hPc hK hDc hN hT hS hFc (ci := 4) (q0 := 0) rfl rfl) rfl rfl hl.1 rfl (lv_room (Nat.le_of_ble_eq_true rfl)) dX4_readSum_138 ⟨Nat.le_of_ble_eq_true rfl, Nat.le_of_ble_eq_true rfl⟩) hS (fun q _ h => hFc q h) hFc (fun r u t H1 locs ht hvm hw hB hz1 hk1 hS => ?_)
                obtain ⟨hP1, hD1⟩ := hB
                rw [ht] at hP1
                obtain ⟨z38, z39, z40, z41, z42, i_32, i_33, i_34, i_35, i_36, i_37, y43, rfl⟩ := hw
                have i_32 : 0 ≤ z38.toInt ∧ z38.toInt ≤ 1 := i_32
                have i_33 : k_ln.toInt ≤ z39.toInt ∧ z39.toInt ≤ 400 := i_33
                have i_34 : 0 ≤ z41.toInt ∧ z41.toInt ≤ 401 := i_34
                have i_35 : 0 ≤ z40.toInt ∧ z40.toInt ≤ 50 := i_35
                have i_36 : CDI z42 z39.toInt := i_36
                have i_37 : OPK k_rc z42 k_ln.toInt := i_37
                obtain ⟨hP, hD⟩ := va_join (wr := []) hP hD [2, 3, 4, 0, 1] [] rfl rfl (by decide) (by decide) hk1 hFc hP1 hD1
                generalize H1 = H at hP hS ⊢
                refine g5_rs [(a_r, (oc4 a_tk a_rh a_rs a_rc z39 z40 z41 e_fp)), (a_tk, (oc8 a_kd a_nm a_pl)), (a_kd, (arI G 401 f_kd)), (a_nm, (arI G 401 f_nm)), (a_rc, (arI G 400 z42))] hP hD (fun hP hD => ?_)
                refine g5_ti (v := z38) y43 ?_
                refine lv_if_ne (tgt := 146) hx hb dX4_readSum_141 (by decide) (fun c_44 => ?_) (fun c_44 => ?_)
                ·
                  have n_44 : gNe (z38.toInt) (0) := by have z := g5_ne (a := z38.toInt) (b := 0) (by rfl) (by decide) c_44; unfold gNe; omega
                  have i_44 : z38.toInt ≥ 1 := by have z := g5_ne (a := z38.toInt) (b := 0) (by rfl) (by decide) c_44; omega
                  refine lv_iload hx hb dX4_readSum_146 (lv_at hl 0 rfl) ?_
                  refine lv_if_eq (tgt := 157) hx hb dX4_readSum_148 (by decide) (fun c_45 => ?_) (fun c_45 => ?_)
                  ·
                    exact absurd c_45 (by decide)
                  ·
                    refine lv_iload hx hb dX4_readSum_151 (lv_at hl 1 rfl) ?_
                    refine lv_istore_n (lv' := [(2, .int 2), (5, .int 1), (4, .int 2), (3, .int k_i), (0, .ref a_r), (1, .int p_d)]) hx hb dX4_readSum_153 rfl hl (by decide) rfl (fun ls hl => ?_)
                    refine lv_goto (tgt := 165) hx hb dX4_readSum_154 (by decide) ?_
                    refine lv_iinc (v := (k_i + 1)) (lv' := [(3, .int (k_i + 1)), (2, .int 2), (5, .int 1), (4, .int 2), (0, .ref a_r), (1, .int p_d)]) hx hb dX4_readSum_165 hl (k := 3) rfl rfl (by decide) rfl (fun ls hl => ?_)
                    have t_46 : (k_i + 1).toInt = k_i.toInt + 1 := g5_iadd (a := k_i.toInt) (b := 1) rfl (by decide) (by omega) (by omega)
                    refine lv_goto (tgt := 14) hx hb dX4_readSum_168 (by decide) ?_
                    exact ih_14_23 (2, (k_i + 1), z39, z40, z41, z42) ls H locs (show Int.toNat (400 - (k_i + 1).toInt) < Int.toNat (400 - k_i.toInt) from g_up (show k_i.toInt < (k_i + 1).toInt by omega) (show k_i.toInt < 400 by omega)) ⟨lv_sub hl [1, 0, 4, 5] rfl, hP, hD, hS, ⟨by decide, by decide⟩, ⟨by omega, by omega⟩, ⟨by omega, by omega⟩, i_35, i_34, by omega, i_36, opk_trans i_21 (i_37) (by omega), Or.inr (Or.inl (by decide))⟩
                ·
                  have i_44 : z38.toInt = 0 := by have z := g5_neN (a := z38.toInt) (b := 0) (by rfl) (by decide) c_44; omega
                  refine lv_iconst (v := 0) hx hb dX4_readSum_144 (by decide) ?_
                  exact W.zret (v := 0) hx hb hr rfl (fun t ht hW => ⟨⟨0, [(a_r, (oc4 a_tk a_rh a_rs a_rc z39 z40 z41 e_fp)), (a_tk, (oc8 a_kd a_nm a_pl)), (a_kd, (arI G 401 f_kd)), (a_nm, (arI G 401 f_nm)), (a_rc, (arI G 400 z42))], rfl, ⟨0, z39, z40, z41, z42, ⟨by have zc_o_r : (0 : Int32).toInt = 0 := (by decide); omega, by have zc_o_r : (0 : Int32).toInt = 0 := (by decide); omega⟩, ⟨by omega, by omega⟩, i_34, i_35, i_36, opk_trans i_21 (i_37) (by omega), rfl, rfl⟩, by rw [ht]; exact hP.sub [0, 1, 2, 3, 4] rfl, hD.sub [0, 1, 2, 3, 4] (by decide) rfl⟩, hS.F ht⟩) hS.2.2 dX4_readSum_145
              ·
                exact absurd c_30 (by decide)
            ·
              have n_29 : gNe (k_w.toInt) ((-1)) := by have z := g5_eqN (a := k_w.toInt) (b := (-1)) (by rfl) (by decide) c_29; unfold gNe; omega
              have i_29 : k_w.toInt ≥ 0 := by have z := g5_eqN (a := k_w.toInt) (b := (-1)) (by rfl) (by decide) c_29; omega
              refine lv_iload hx hb dX4_readSum_100 (lv_at hl 0 rfl) ?_
              refine lv_if_ne (tgt := 111) hx hb dX4_readSum_102 (by decide) (fun c_47 => ?_) (fun c_47 => ?_)
              ·
                refine lv_aload_n hx hb dX4_readSum_111 rfl (lv_at hl 4 rfl) ?_
                refine lv_iload_n hx hb dX4_readSum_112 rfl (lv_at hl 2 rfl) ?_
                refine lv_iconst (v := 0) hx hb dX4_readSum_113 (by decide) ?_
                obtain ⟨hPc, hDc, hFc⟩ := g5_sub3 (wc := [(a_r, (oc4 a_tk a_rh a_rs a_rc k_ln k_pa k_at e_fp)), (a_rc, (arI G 400 k_rc))]) hP hD hS hA [2, 1] (by decide) rfl
                refine va_calli (va_runV (As := [.int k_w, .int 0]) (rest := []) ⟨hx, hb, hml, hown, hts⟩ (r_emit l G a_r a_rc a_tk a_rh a_rs H.size k_ln k_pa k_at e_fp k_w 0 k_rc i_16 i_17 i_18 (i_20) (wok_wait (by rcases i_22 with q | q | q; exact absurd q n_29; exact Or.inl q; exact Or.inr q))) (cwV 2 hts gV_X4_79 rfl rfl rfl hv_X4_emit ⟨by simp only [headSpec]; omega, by simp only [headSpec]; omega⟩) (g5_preV hPc hK hDc hN hT hS hFc (ci := 4) (q0 := 0) rfl rfl) rfl rfl hl.1 rfl (lv_room (Nat.le_of_ble_eq_true rfl)) dX4_readSum_114 ⟨Nat.le_of_ble_eq_true rfl, Nat.le_of_ble_eq_true rfl⟩) hS (fun q _ h => hFc q h) hFc (fun r u t H1 locs ht hvm hw hB hz1 hk1 hS => ?_)
                obtain ⟨hP1, hD1⟩ := hB
                rw [ht] at hP1
                obtain ⟨z53, z54, z55, i_48, i_49, i_50, i_51, i_52, y56, rfl⟩ := hw
                have i_48 : -1 ≤ z53.toInt ∧ z53.toInt ≤ 399 := i_48
                have i_49 : k_ln.toInt ≤ z54.toInt ∧ z54.toInt ≤ 400 := i_49
                have i_50 : CDI z55 z54.toInt := i_50
                have i_51 : OPK k_rc z55 k_ln.toInt := i_51
                have i_52 : 0 ≤ z53.toInt → z53.toInt < z54.toInt ∧ z55 z53.toNatClampNeg = ((k_w <<< (12 &&& 31)) ||| (0 : Int32)) := i_52
                obtain ⟨hP, hD⟩ := va_join (wr := [(a_nm, (arI G 401 f_nm)), (a_tk, (oc8 a_kd a_nm a_pl)), (a_kd, (arI G 401 f_kd))]) hP hD [2, 1] [0, 3, 4] rfl rfl (by decide) (by decide) hk1 hFc hP1 hD1
                generalize H1 = H at hP hS ⊢
                refine g5_rs [(a_nm, (arI G 401 f_nm)), (a_tk, (oc8 a_kd a_nm a_pl)), (a_kd, (arI G 401 f_kd)), (a_r, (oc4 a_tk a_rh a_rs a_rc z54 k_pa k_at e_fp)), (a_rc, (arI G 400 z55))] hP hD (fun hP hD => ?_)
                refine g5_ti (v := z53) y56 ?_
                refine lv_pop hx hb dX4_readSum_117 rfl ?_
                refine lv_iload hx hb dX4_readSum_118 (lv_at hl 1 rfl) ?_
                refine lv_iconst (v := (-1)) hx hb dX4_readSum_120 (by decide) ?_
                refine lv_icmp_ne (tgt := 126) hx hb dX4_readSum_121 (by decide) (fun c_57 => ?_) (fun c_57 => ?_)
                ·
                  refine lv_aload_n hx hb dX4_readSum_126 rfl (lv_at hl 4 rfl) ?_
                  refine lv_dup hx hb dX4_readSum_127 rfl ?_
                  refine va_get (D := G.1) (ci := 4) (v := .int k_at) (C := RX4) (T := TX4) (N := 8) hx hb hts inG_X4 hown hK hP 3 rfl rfl 6 (by decide) (hts _ fl_X4_42) (fun _ h9 => h9) rfl dX4_readSum_128 ?_
                  refine lv_iconst (v := 1) hx hb dX4_readSum_131 (by decide) ?_
                  refine lv_iadd hx hb dX4_readSum_132 ?_
                  have t_58 : (k_at + 1).toInt = k_at.toInt + 1 := g5_iadd (a := k_at.toInt) (b := 1) (by rfl) (by decide) (by omega) (by omega)
                  refine va_put (D := G.1) (ci := 4) (v := .int (k_at + 1)) (ty := .int) (C := RX4) (T := TX4) (N := 8) hx hb hts inG_X4 tyX4 tyX4_ok nmX4 hown hK hP hD hS 3 rfl rfl 6 (by decide) (hts _ fl_X4_42) (fun _ h9 => h9) rfl (by decide +kernel) rfl rfl (Nat.le_of_ble_eq_true rfl) dX4_readSum_133 (fun H locs hP hD hS => ?_)
                  refine g5_rs [(a_nm, (arI G 401 f_nm)), (a_tk, (oc8 a_kd a_nm a_pl)), (a_kd, (arI G 401 f_kd)), (a_r, (oc4 a_tk a_rh a_rs a_rc z54 k_pa (k_at + 1) e_fp)), (a_rc, (arI G 400 z55))] hP hD (fun hP hD => ?_)
                  refine lv_aload_n hx hb dX4_readSum_136 rfl (lv_at hl 4 rfl) ?_
                  refine lv_iload_n hx hb dX4_readSum_137 rfl (lv_at hl 5 rfl) ?_
                  obtain ⟨hPc, hDc, hFc⟩ := g5_sub3 (wc := [(a_r, (oc4 a_tk a_rh a_rs a_rc z54 k_pa (k_at + 1) e_fp)), (a_tk, (oc8 a_kd a_nm a_pl)), (a_kd, (arI G 401 f_kd)), (a_nm, (arI G 401 f_nm)), (a_rc, (arI G 400 z55))]) hP hD hS hA [3, 1, 2, 0, 4] (by decide) rfl
                  refine va_calli (va_runV (As := [.int p_d]) (rest := []) ⟨hx, hb, hml, hown, hts⟩ ((r_part fr lo p_d h_p_d h_sum) l G a_r a_tk a_kd a_nm a_rc a_rh a_rs a_pl H.size z54 k_pa (k_at + 1) e_fp f_kd f_nm z55 ⟨by omega, by omega⟩ i_17 ⟨by omega, by omega⟩ (e_tk) (i_50)) (cwV 1 hts gV_X4_90 rfl rfl rfl hv_X4_readPart ⟨by simp only [headSpec]; omega, by simp only [headSpec]; omega⟩) (g5_preV hPc hK hDc hN hT hS hFc (ci := 4) (q0 := 0) rfl rfl) rfl rfl hl.1 rfl (lv_room (Nat.le_of_ble_eq_true rfl)) dX4_readSum_138 ⟨Nat.le_of_ble_eq_true rfl, Nat.le_of_ble_eq_true rfl⟩) hS (fun q _ h => hFc q h) hFc (fun r u t H1 locs ht hvm hw hB hz1 hk1 hS => ?_)
                  obtain ⟨hP1, hD1⟩ := hB
                  rw [ht] at hP1
                  obtain ⟨z65, z66, z67, z68, z69, i_59, i_60, i_61, i_62, i_63, i_64, y70, rfl⟩ := hw
                  have i_59 : 0 ≤ z65.toInt ∧ z65.toInt ≤ 1 := i_59
                  have i_60 : z54.toInt ≤ z66.toInt ∧ z66.toInt ≤ 400 := i_60
                  have i_61 : 0 ≤ z68.toInt ∧ z68.toInt ≤ 401 := i_61
                  have i_62 : 0 ≤ z67.toInt ∧ z67.toInt ≤ 50 := i_62
                  have i_63 : CDI z69 z66.toInt := i_63
                  have i_64 : OPK z55 z69 z54.toInt := i_64
                  obtain ⟨hP, hD⟩ := va_join (wr := []) hP hD [3, 1, 2, 0, 4] [] rfl rfl (by decide) (by decide) hk1 hFc hP1 hD1
                  generalize H1 = H at hP hS ⊢
                  refine g5_rs [(a_r, (oc4 a_tk a_rh a_rs a_rc z66 z67 z68 e_fp)), (a_tk, (oc8 a_kd a_nm a_pl)), (a_kd, (arI G 401 f_kd)), (a_nm, (arI G 401 f_nm)), (a_rc, (arI G 400 z69))] hP hD (fun hP hD => ?_)
                  refine g5_ti (v := z65) y70 ?_
                  refine lv_if_ne (tgt := 146) hx hb dX4_readSum_141 (by decide) (fun c_71 => ?_) (fun c_71 => ?_)
                  ·
                    have n_71 : gNe (z65.toInt) (0) := by have z := g5_ne (a := z65.toInt) (b := 0) (by rfl) (by decide) c_71; unfold gNe; omega
                    have i_71 : z65.toInt ≥ 1 := by have z := g5_ne (a := z65.toInt) (b := 0) (by rfl) (by decide) c_71; omega
                    refine lv_iload hx hb dX4_readSum_146 (lv_at hl 0 rfl) ?_
                    refine lv_if_eq (tgt := 157) hx hb dX4_readSum_148 (by decide) (fun c_72 => ?_) (fun c_72 => ?_)
                    ·
                      exact absurd c_72 (by decide)
                    ·
                      refine lv_iload hx hb dX4_readSum_151 (lv_at hl 1 rfl) ?_
                      refine lv_istore_n (lv' := [(2, .int 2), (5, .int 1), (4, .int 2), (3, .int k_i), (0, .ref a_r), (1, .int p_d)]) hx hb dX4_readSum_153 rfl hl (by decide) rfl (fun ls hl => ?_)
                      refine lv_goto (tgt := 165) hx hb dX4_readSum_154 (by decide) ?_
                      refine lv_iinc (v := (k_i + 1)) (lv' := [(3, .int (k_i + 1)), (2, .int 2), (5, .int 1), (4, .int 2), (0, .ref a_r), (1, .int p_d)]) hx hb dX4_readSum_165 hl (k := 3) rfl rfl (by decide) rfl (fun ls hl => ?_)
                      have t_73 : (k_i + 1).toInt = k_i.toInt + 1 := g5_iadd (a := k_i.toInt) (b := 1) rfl (by decide) (by omega) (by omega)
                      refine lv_goto (tgt := 14) hx hb dX4_readSum_168 (by decide) ?_
                      exact ih_14_23 (2, (k_i + 1), z66, z67, z68, z69) ls H locs (show Int.toNat (400 - (k_i + 1).toInt) < Int.toNat (400 - k_i.toInt) from g_up (show k_i.toInt < (k_i + 1).toInt by omega) (show k_i.toInt < 400 by omega)) ⟨lv_sub hl [1, 0, 4, 5] rfl, hP, hD, hS, ⟨by decide, by decide⟩, ⟨by omega, by omega⟩, ⟨by omega, by omega⟩, i_62, i_61, by omega, i_63, opk_trans i_21 (opk_trans i_51 (i_64) (by omega)) (by omega), Or.inr (Or.inl (by decide))⟩
                  ·
                    have i_71 : z65.toInt = 0 := by have z := g5_neN (a := z65.toInt) (b := 0) (by rfl) (by decide) c_71; omega
                    refine lv_iconst (v := 0) hx hb dX4_readSum_144 (by decide) ?_
                    exact W.zret (v := 0) hx hb hr rfl (fun t ht hW => ⟨⟨0, [(a_r, (oc4 a_tk a_rh a_rs a_rc z66 z67 z68 e_fp)), (a_tk, (oc8 a_kd a_nm a_pl)), (a_kd, (arI G 401 f_kd)), (a_nm, (arI G 401 f_nm)), (a_rc, (arI G 400 z69))], rfl, ⟨0, z66, z67, z68, z69, ⟨by have zc_o_r : (0 : Int32).toInt = 0 := (by decide); omega, by have zc_o_r : (0 : Int32).toInt = 0 := (by decide); omega⟩, ⟨by omega, by omega⟩, i_61, i_62, i_63, opk_trans i_21 (opk_trans i_51 (i_64) (by omega)) (by omega), rfl, rfl⟩, by rw [ht]; exact hP.sub [0, 1, 2, 3, 4] rfl, hD.sub [0, 1, 2, 3, 4] (by decide) rfl⟩, hS.F ht⟩) hS.2.2 dX4_readSum_145
                ·
                  exact absurd c_57 (by decide)
              ·
                exact absurd c_47 (by decide)
          ·
            exact absurd c_28 (by decide)
      ·
        obtain ⟨hP, hD⟩ := va_join (wr := [(a_nm, (arI G 401 f_nm)), (a_rc, (arI G 400 k_rc))]) hP hD [0, 1, 2] [3, 4] rfl rfl (by decide) (by decide) hk1 hFc hP1 hD1
        generalize H1 = H at hP hS ⊢
        refine g5_rs [(a_nm, (arI G 401 f_nm)), (a_rc, (arI G 400 k_rc)), (a_r, (oc4 a_tk a_rh a_rs a_rc k_ln k_pa k_at e_fp)), (a_tk, (oc8 a_kd a_nm a_pl)), (a_kd, (arI G 401 f_kd))] hP hD (fun hP hD => ?_)
        refine lv_if_eq (tgt := 34) hx hb dX4_readSum_27 (by decide) (fun c_74 => ?_) (fun c_74 => ?_)
        ·
          refine lv_aload_n hx hb dX4_readSum_34 rfl (lv_at hl 2 rfl) ?_
          refine lv_bipush (v := 45) hx hb dX4_readSum_35 (by decide) ?_
          obtain ⟨hPc, hDc, hFc⟩ := g5_sub3 (wc := [(a_r, (oc4 a_tk a_rh a_rs a_rc k_ln k_pa k_at e_fp)), (a_tk, (oc8 a_kd a_nm a_pl)), (a_kd, (arI G 401 f_kd))]) hP hD hS hA [2, 3, 4] (by decide) rfl
          refine va_calli (va_runV (As := [.int 45]) (rest := []) ⟨hx, hb, hml, hown, hts⟩ (r_isNext l G a_r a_tk a_kd a_rh a_rs a_rc a_nm a_pl H.size k_ln k_pa k_at e_fp 45 f_kd i_16 i_17 i_18) (cwV 1 hts gV_X4_49 rfl rfl rfl hv_X4_isNext ⟨by simp only [headSpec]; omega, by simp only [headSpec]; omega⟩) (g5_preV hPc hK hDc hN hT hS hFc (ci := 4) (q0 := 0) rfl rfl) rfl rfl hl.1 rfl (lv_room (Nat.le_of_ble_eq_true rfl)) dX4_readSum_37 ⟨Nat.le_of_ble_eq_true rfl, Nat.le_of_ble_eq_true rfl⟩) hS (fun q _ h => hFc q h) hFc (fun r u t H1 locs ht hvm hw hB hz1 hk1 hS => ?_)
          obtain ⟨hP1, hD1⟩ := hB
          rw [ht] at hP1
          rcases hw with ⟨i_75, i_76, rfl, rfl⟩ | ⟨rfl, rfl⟩
          ·
            have i_75 : k_at.toInt ≤ 400 := i_75
            have i_76 : f_kd k_at.toNatClampNeg = (45 : Int32) := i_76
            obtain ⟨hP, hD⟩ := va_join (wr := [(a_nm, (arI G 401 f_nm)), (a_rc, (arI G 400 k_rc))]) hP hD [2, 3, 4] [0, 1] rfl rfl (by decide) (by decide) hk1 hFc hP1 hD1
            generalize H1 = H at hP hS ⊢
            refine g5_rs [(a_nm, (arI G 401 f_nm)), (a_rc, (arI G 400 k_rc)), (a_r, (oc4 a_tk a_rh a_rs a_rc k_ln k_pa k_at e_fp)), (a_tk, (oc8 a_kd a_nm a_pl)), (a_kd, (arI G 401 f_kd))] hP hD (fun hP hD => ?_)
            refine lv_if_eq (tgt := 47) hx hb dX4_readSum_40 (by decide) (fun c_77 => ?_) (fun c_77 => ?_)
            ·
              exact absurd c_77 (by decide)
            ·
              refine lv_iconst (v := 3) hx hb dX4_readSum_43 (by decide) ?_
              refine lv_goto (tgt := 74) hx hb dX4_readSum_44 (by decide) ?_
              refine lv_istore (lv' := [(4, .int 3), (2, .int k_w), (3, .int k_i), (0, .ref a_r), (1, .int p_d)]) hx hb dX4_readSum_74 hl (by decide) rfl (fun ls hl => ?_)
              refine lv_iload hx hb dX4_readSum_76 (lv_at hl 0 rfl) ?_
              refine lv_iconst (v := 2) hx hb dX4_readSum_78 (by decide) ?_
              refine lv_icmp_eq (tgt := 88) hx hb dX4_readSum_79 (by decide) (fun c_78 => ?_) (fun c_78 => ?_)
              ·
                exact absurd c_78 (by decide)
              ·
                refine lv_iload hx hb dX4_readSum_82 (lv_at hl 0 rfl) ?_
                refine lv_iconst (v := 3) hx hb dX4_readSum_84 (by decide) ?_
                refine lv_icmp_ne (tgt := 92) hx hb dX4_readSum_85 (by decide) (fun c_79 => ?_) (fun c_79 => ?_)
                ·
                  exact absurd c_79 (by decide)
                ·
                  refine lv_iconst (v := 1) hx hb dX4_readSum_88 (by decide) ?_
                  refine lv_goto (tgt := 93) hx hb dX4_readSum_89 (by decide) ?_
                  refine lv_istore (lv' := [(5, .int 1), (4, .int 3), (2, .int k_w), (3, .int k_i), (0, .ref a_r), (1, .int p_d)]) hx hb dX4_readSum_93 hl (by decide) rfl (fun ls hl => ?_)
                  refine lv_iload_n hx hb dX4_readSum_95 rfl (lv_at hl 2 rfl) ?_
                  refine lv_iconst (v := (-1)) hx hb dX4_readSum_96 (by decide) ?_
                  refine lv_icmp_eq (tgt := 118) hx hb dX4_readSum_97 (by decide) (fun c_80 => ?_) (fun c_80 => ?_)
                  ·
                    have i_80 : k_w.toInt = (-1) := by have z := g5_eq (a := k_w.toInt) (b := (-1)) (by rfl) (by decide) c_80; omega
                    refine lv_iload hx hb dX4_readSum_118 (lv_at hl 1 rfl) ?_
                    refine lv_iconst (v := (-1)) hx hb dX4_readSum_120 (by decide) ?_
                    refine lv_icmp_ne (tgt := 126) hx hb dX4_readSum_121 (by decide) (fun c_81 => ?_) (fun c_81 => ?_)
                    ·
                      refine lv_aload_n hx hb dX4_readSum_126 rfl (lv_at hl 4 rfl) ?_
                      refine lv_dup hx hb dX4_readSum_127 rfl ?_
                      refine va_get (D := G.1) (ci := 4) (v := .int k_at) (C := RX4) (T := TX4) (N := 8) hx hb hts inG_X4 hown hK hP 2 rfl rfl 6 (by decide) (hts _ fl_X4_42) (fun _ h9 => h9) rfl dX4_readSum_128 ?_
                      refine lv_iconst (v := 1) hx hb dX4_readSum_131 (by decide) ?_
                      refine lv_iadd hx hb dX4_readSum_132 ?_
                      have t_82 : (k_at + 1).toInt = k_at.toInt + 1 := g5_iadd (a := k_at.toInt) (b := 1) (by rfl) (by decide) (by omega) (by omega)
                      refine va_put (D := G.1) (ci := 4) (v := .int (k_at + 1)) (ty := .int) (C := RX4) (T := TX4) (N := 8) hx hb hts inG_X4 tyX4 tyX4_ok nmX4 hown hK hP hD hS 2 rfl rfl 6 (by decide) (hts _ fl_X4_42) (fun _ h9 => h9) rfl (by decide +kernel) rfl rfl (Nat.le_of_ble_eq_true rfl) dX4_readSum_133 (fun H locs hP hD hS => ?_)
                      refine g5_rs [(a_nm, (arI G 401 f_nm)), (a_rc, (arI G 400 k_rc)), (a_r, (oc4 a_tk a_rh a_rs a_rc k_ln k_pa (k_at + 1) e_fp)), (a_tk, (oc8 a_kd a_nm a_pl)), (a_kd, (arI G 401 f_kd))] hP hD (fun hP hD => ?_)
                      refine lv_aload_n hx hb dX4_readSum_136 rfl (lv_at hl 4 rfl) ?_
                      refine lv_iload_n hx hb dX4_readSum_137 rfl (lv_at hl 5 rfl) ?_
                      obtain ⟨hPc, hDc, hFc⟩ := g5_sub3 (wc := [(a_r, (oc4 a_tk a_rh a_rs a_rc k_ln k_pa (k_at + 1) e_fp)), (a_tk, (oc8 a_kd a_nm a_pl)), (a_kd, (arI G 401 f_kd)), (a_nm, (arI G 401 f_nm)), (a_rc, (arI G 400 k_rc))]) hP hD hS hA [2, 3, 4, 0, 1] (by decide) rfl
                      refine va_calli (va_runV (As := [.int p_d]) (rest := []) ⟨hx, hb, hml, hown, hts⟩ ((r_part fr lo p_d h_p_d h_sum) l G a_r a_tk a_kd a_nm a_rc a_rh a_rs a_pl H.size k_ln k_pa (k_at + 1) e_fp f_kd f_nm k_rc i_16 i_17 ⟨by omega, by omega⟩ (e_tk) (i_20)) (cwV 1 hts gV_X4_90 rfl rfl rfl hv_X4_readPart ⟨by simp only [headSpec]; omega, by simp only [headSpec]; omega⟩) (g5_preV hPc hK hDc hN hT hS hFc (ci := 4) (q0 := 0) rfl rfl) rfl rfl hl.1 rfl (lv_room (Nat.le_of_ble_eq_true rfl)) dX4_readSum_138 ⟨Nat.le_of_ble_eq_true rfl, Nat.le_of_ble_eq_true rfl⟩) hS (fun q _ h => hFc q h) hFc (fun r u t H1 locs ht hvm hw hB hz1 hk1 hS => ?_)
                      obtain ⟨hP1, hD1⟩ := hB
                      rw [ht] at hP1
                      obtain ⟨z89, z90, z91, z92, z93, i_83, i_84, i_85, i_86, i_87, i_88, y94, rfl⟩ := hw
                      have i_83 : 0 ≤ z89.toInt ∧ z89.toInt ≤ 1 := i_83
                      have i_84 : k_ln.toInt ≤ z90.toInt ∧ z90.toInt ≤ 400 := i_84
                      have i_85 : 0 ≤ z92.toInt ∧ z92.toInt ≤ 401 := i_85
                      have i_86 : 0 ≤ z91.toInt ∧ z91.toInt ≤ 50 := i_86
                      have i_87 : CDI z93 z90.toInt := i_87
                      have i_88 : OPK k_rc z93 k_ln.toInt := i_88
                      obtain ⟨hP, hD⟩ := va_join (wr := []) hP hD [2, 3, 4, 0, 1] [] rfl rfl (by decide) (by decide) hk1 hFc hP1 hD1
                      generalize H1 = H at hP hS ⊢
                      refine g5_rs [(a_r, (oc4 a_tk a_rh a_rs a_rc z90 z91 z92 e_fp)), (a_tk, (oc8 a_kd a_nm a_pl)), (a_kd, (arI G 401 f_kd)), (a_nm, (arI G 401 f_nm)), (a_rc, (arI G 400 z93))] hP hD (fun hP hD => ?_)
                      refine g5_ti (v := z89) y94 ?_
                      refine lv_if_ne (tgt := 146) hx hb dX4_readSum_141 (by decide) (fun c_95 => ?_) (fun c_95 => ?_)
                      ·
                        have n_95 : gNe (z89.toInt) (0) := by have z := g5_ne (a := z89.toInt) (b := 0) (by rfl) (by decide) c_95; unfold gNe; omega
                        have i_95 : z89.toInt ≥ 1 := by have z := g5_ne (a := z89.toInt) (b := 0) (by rfl) (by decide) c_95; omega
                        refine lv_iload hx hb dX4_readSum_146 (lv_at hl 0 rfl) ?_
                        refine lv_if_eq (tgt := 157) hx hb dX4_readSum_148 (by decide) (fun c_96 => ?_) (fun c_96 => ?_)
                        ·
                          exact absurd c_96 (by decide)
                        ·
                          refine lv_iload hx hb dX4_readSum_151 (lv_at hl 1 rfl) ?_
                          refine lv_istore_n (lv' := [(2, .int 3), (5, .int 1), (4, .int 3), (3, .int k_i), (0, .ref a_r), (1, .int p_d)]) hx hb dX4_readSum_153 rfl hl (by decide) rfl (fun ls hl => ?_)
                          refine lv_goto (tgt := 165) hx hb dX4_readSum_154 (by decide) ?_
                          refine lv_iinc (v := (k_i + 1)) (lv' := [(3, .int (k_i + 1)), (2, .int 3), (5, .int 1), (4, .int 3), (0, .ref a_r), (1, .int p_d)]) hx hb dX4_readSum_165 hl (k := 3) rfl rfl (by decide) rfl (fun ls hl => ?_)
                          have t_97 : (k_i + 1).toInt = k_i.toInt + 1 := g5_iadd (a := k_i.toInt) (b := 1) rfl (by decide) (by omega) (by omega)
                          refine lv_goto (tgt := 14) hx hb dX4_readSum_168 (by decide) ?_
                          exact ih_14_23 (3, (k_i + 1), z90, z91, z92, z93) ls H locs (show Int.toNat (400 - (k_i + 1).toInt) < Int.toNat (400 - k_i.toInt) from g_up (show k_i.toInt < (k_i + 1).toInt by omega) (show k_i.toInt < 400 by omega)) ⟨lv_sub hl [1, 0, 4, 5] rfl, hP, hD, hS, ⟨by decide, by decide⟩, ⟨by omega, by omega⟩, ⟨by omega, by omega⟩, i_86, i_85, by omega, i_87, opk_trans i_21 (i_88) (by omega), Or.inr (Or.inr (by decide))⟩
                      ·
                        have i_95 : z89.toInt = 0 := by have z := g5_neN (a := z89.toInt) (b := 0) (by rfl) (by decide) c_95; omega
                        refine lv_iconst (v := 0) hx hb dX4_readSum_144 (by decide) ?_
                        exact W.zret (v := 0) hx hb hr rfl (fun t ht hW => ⟨⟨0, [(a_r, (oc4 a_tk a_rh a_rs a_rc z90 z91 z92 e_fp)), (a_tk, (oc8 a_kd a_nm a_pl)), (a_kd, (arI G 401 f_kd)), (a_nm, (arI G 401 f_nm)), (a_rc, (arI G 400 z93))], rfl, ⟨0, z90, z91, z92, z93, ⟨by have zc_o_r : (0 : Int32).toInt = 0 := (by decide); omega, by have zc_o_r : (0 : Int32).toInt = 0 := (by decide); omega⟩, ⟨by omega, by omega⟩, i_85, i_86, i_87, opk_trans i_21 (i_88) (by omega), rfl, rfl⟩, by rw [ht]; exact hP.sub [0, 1, 2, 3, 4] rfl, hD.sub [0, 1, 2, 3, 4] (by decide) rfl⟩, hS.F ht⟩) hS.2.2 dX4_readSum_145
                    ·
                      exact absurd c_81 (by decide)
                  ·
                    have n_80 : gNe (k_w.toInt) ((-1)) := by have z := g5_eqN (a := k_w.toInt) (b := (-1)) (by rfl) (by decide) c_80; unfold gNe; omega
                    have i_80 : k_w.toInt ≥ 0 := by have z := g5_eqN (a := k_w.toInt) (b := (-1)) (by rfl) (by decide) c_80; omega
                    refine lv_iload hx hb dX4_readSum_100 (lv_at hl 0 rfl) ?_
                    refine lv_if_ne (tgt := 111) hx hb dX4_readSum_102 (by decide) (fun c_98 => ?_) (fun c_98 => ?_)
                    ·
                      refine lv_aload_n hx hb dX4_readSum_111 rfl (lv_at hl 4 rfl) ?_
                      refine lv_iload_n hx hb dX4_readSum_112 rfl (lv_at hl 2 rfl) ?_
                      refine lv_iconst (v := 0) hx hb dX4_readSum_113 (by decide) ?_
                      obtain ⟨hPc, hDc, hFc⟩ := g5_sub3 (wc := [(a_r, (oc4 a_tk a_rh a_rs a_rc k_ln k_pa k_at e_fp)), (a_rc, (arI G 400 k_rc))]) hP hD hS hA [2, 1] (by decide) rfl
                      refine va_calli (va_runV (As := [.int k_w, .int 0]) (rest := []) ⟨hx, hb, hml, hown, hts⟩ (r_emit l G a_r a_rc a_tk a_rh a_rs H.size k_ln k_pa k_at e_fp k_w 0 k_rc i_16 i_17 i_18 (i_20) (wok_wait (by rcases i_22 with q | q | q; exact absurd q n_80; exact Or.inl q; exact Or.inr q))) (cwV 2 hts gV_X4_79 rfl rfl rfl hv_X4_emit ⟨by simp only [headSpec]; omega, by simp only [headSpec]; omega⟩) (g5_preV hPc hK hDc hN hT hS hFc (ci := 4) (q0 := 0) rfl rfl) rfl rfl hl.1 rfl (lv_room (Nat.le_of_ble_eq_true rfl)) dX4_readSum_114 ⟨Nat.le_of_ble_eq_true rfl, Nat.le_of_ble_eq_true rfl⟩) hS (fun q _ h => hFc q h) hFc (fun r u t H1 locs ht hvm hw hB hz1 hk1 hS => ?_)
                      obtain ⟨hP1, hD1⟩ := hB
                      rw [ht] at hP1
                      obtain ⟨z104, z105, z106, i_99, i_100, i_101, i_102, i_103, y107, rfl⟩ := hw
                      have i_99 : -1 ≤ z104.toInt ∧ z104.toInt ≤ 399 := i_99
                      have i_100 : k_ln.toInt ≤ z105.toInt ∧ z105.toInt ≤ 400 := i_100
                      have i_101 : CDI z106 z105.toInt := i_101
                      have i_102 : OPK k_rc z106 k_ln.toInt := i_102
                      have i_103 : 0 ≤ z104.toInt → z104.toInt < z105.toInt ∧ z106 z104.toNatClampNeg = ((k_w <<< (12 &&& 31)) ||| (0 : Int32)) := i_103
                      obtain ⟨hP, hD⟩ := va_join (wr := [(a_nm, (arI G 401 f_nm)), (a_tk, (oc8 a_kd a_nm a_pl)), (a_kd, (arI G 401 f_kd))]) hP hD [2, 1] [0, 3, 4] rfl rfl (by decide) (by decide) hk1 hFc hP1 hD1
                      generalize H1 = H at hP hS ⊢
                      refine g5_rs [(a_nm, (arI G 401 f_nm)), (a_tk, (oc8 a_kd a_nm a_pl)), (a_kd, (arI G 401 f_kd)), (a_r, (oc4 a_tk a_rh a_rs a_rc z105 k_pa k_at e_fp)), (a_rc, (arI G 400 z106))] hP hD (fun hP hD => ?_)
                      refine g5_ti (v := z104) y107 ?_
                      refine lv_pop hx hb dX4_readSum_117 rfl ?_
                      refine lv_iload hx hb dX4_readSum_118 (lv_at hl 1 rfl) ?_
                      refine lv_iconst (v := (-1)) hx hb dX4_readSum_120 (by decide) ?_
                      refine lv_icmp_ne (tgt := 126) hx hb dX4_readSum_121 (by decide) (fun c_108 => ?_) (fun c_108 => ?_)
                      ·
                        refine lv_aload_n hx hb dX4_readSum_126 rfl (lv_at hl 4 rfl) ?_
                        refine lv_dup hx hb dX4_readSum_127 rfl ?_
                        refine va_get (D := G.1) (ci := 4) (v := .int k_at) (C := RX4) (T := TX4) (N := 8) hx hb hts inG_X4 hown hK hP 3 rfl rfl 6 (by decide) (hts _ fl_X4_42) (fun _ h9 => h9) rfl dX4_readSum_128 ?_
                        refine lv_iconst (v := 1) hx hb dX4_readSum_131 (by decide) ?_
                        refine lv_iadd hx hb dX4_readSum_132 ?_
                        have t_109 : (k_at + 1).toInt = k_at.toInt + 1 := g5_iadd (a := k_at.toInt) (b := 1) (by rfl) (by decide) (by omega) (by omega)
                        refine va_put (D := G.1) (ci := 4) (v := .int (k_at + 1)) (ty := .int) (C := RX4) (T := TX4) (N := 8) hx hb hts inG_X4 tyX4 tyX4_ok nmX4 hown hK hP hD hS 3 rfl rfl 6 (by decide) (hts _ fl_X4_42) (fun _ h9 => h9) rfl (by decide +kernel) rfl rfl (Nat.le_of_ble_eq_true rfl) dX4_readSum_133 (fun H locs hP hD hS => ?_)
                        refine g5_rs [(a_nm, (arI G 401 f_nm)), (a_tk, (oc8 a_kd a_nm a_pl)), (a_kd, (arI G 401 f_kd)), (a_r, (oc4 a_tk a_rh a_rs a_rc z105 k_pa (k_at + 1) e_fp)), (a_rc, (arI G 400 z106))] hP hD (fun hP hD => ?_)
                        refine lv_aload_n hx hb dX4_readSum_136 rfl (lv_at hl 4 rfl) ?_
                        refine lv_iload_n hx hb dX4_readSum_137 rfl (lv_at hl 5 rfl) ?_
                        obtain ⟨hPc, hDc, hFc⟩ := g5_sub3 (wc := [(a_r, (oc4 a_tk a_rh a_rs a_rc z105 k_pa (k_at + 1) e_fp)), (a_tk, (oc8 a_kd a_nm a_pl)), (a_kd, (arI G 401 f_kd)), (a_nm, (arI G 401 f_nm)), (a_rc, (arI G 400 z106))]) hP hD hS hA [3, 1, 2, 0, 4] (by decide) rfl
                        refine va_calli (va_runV (As := [.int p_d]) (rest := []) ⟨hx, hb, hml, hown, hts⟩ ((r_part fr lo p_d h_p_d h_sum) l G a_r a_tk a_kd a_nm a_rc a_rh a_rs a_pl H.size z105 k_pa (k_at + 1) e_fp f_kd f_nm z106 ⟨by omega, by omega⟩ i_17 ⟨by omega, by omega⟩ (e_tk) (i_101)) (cwV 1 hts gV_X4_90 rfl rfl rfl hv_X4_readPart ⟨by simp only [headSpec]; omega, by simp only [headSpec]; omega⟩) (g5_preV hPc hK hDc hN hT hS hFc (ci := 4) (q0 := 0) rfl rfl) rfl rfl hl.1 rfl (lv_room (Nat.le_of_ble_eq_true rfl)) dX4_readSum_138 ⟨Nat.le_of_ble_eq_true rfl, Nat.le_of_ble_eq_true rfl⟩) hS (fun q _ h => hFc q h) hFc (fun r u t H1 locs ht hvm hw hB hz1 hk1 hS => ?_)
                        obtain ⟨hP1, hD1⟩ := hB
                        rw [ht] at hP1
                        obtain ⟨z116, z117, z118, z119, z120, i_110, i_111, i_112, i_113, i_114, i_115, y121, rfl⟩ := hw
                        have i_110 : 0 ≤ z116.toInt ∧ z116.toInt ≤ 1 := i_110
                        have i_111 : z105.toInt ≤ z117.toInt ∧ z117.toInt ≤ 400 := i_111
                        have i_112 : 0 ≤ z119.toInt ∧ z119.toInt ≤ 401 := i_112
                        have i_113 : 0 ≤ z118.toInt ∧ z118.toInt ≤ 50 := i_113
                        have i_114 : CDI z120 z117.toInt := i_114
                        have i_115 : OPK z106 z120 z105.toInt := i_115
                        obtain ⟨hP, hD⟩ := va_join (wr := []) hP hD [3, 1, 2, 0, 4] [] rfl rfl (by decide) (by decide) hk1 hFc hP1 hD1
                        generalize H1 = H at hP hS ⊢
                        refine g5_rs [(a_r, (oc4 a_tk a_rh a_rs a_rc z117 z118 z119 e_fp)), (a_tk, (oc8 a_kd a_nm a_pl)), (a_kd, (arI G 401 f_kd)), (a_nm, (arI G 401 f_nm)), (a_rc, (arI G 400 z120))] hP hD (fun hP hD => ?_)
                        refine g5_ti (v := z116) y121 ?_
                        refine lv_if_ne (tgt := 146) hx hb dX4_readSum_141 (by decide) (fun c_122 => ?_) (fun c_122 => ?_)
                        ·
                          have n_122 : gNe (z116.toInt) (0) := by have z := g5_ne (a := z116.toInt) (b := 0) (by rfl) (by decide) c_122; unfold gNe; omega
                          have i_122 : z116.toInt ≥ 1 := by have z := g5_ne (a := z116.toInt) (b := 0) (by rfl) (by decide) c_122; omega
                          refine lv_iload hx hb dX4_readSum_146 (lv_at hl 0 rfl) ?_
                          refine lv_if_eq (tgt := 157) hx hb dX4_readSum_148 (by decide) (fun c_123 => ?_) (fun c_123 => ?_)
                          ·
                            exact absurd c_123 (by decide)
                          ·
                            refine lv_iload hx hb dX4_readSum_151 (lv_at hl 1 rfl) ?_
                            refine lv_istore_n (lv' := [(2, .int 3), (5, .int 1), (4, .int 3), (3, .int k_i), (0, .ref a_r), (1, .int p_d)]) hx hb dX4_readSum_153 rfl hl (by decide) rfl (fun ls hl => ?_)
                            refine lv_goto (tgt := 165) hx hb dX4_readSum_154 (by decide) ?_
                            refine lv_iinc (v := (k_i + 1)) (lv' := [(3, .int (k_i + 1)), (2, .int 3), (5, .int 1), (4, .int 3), (0, .ref a_r), (1, .int p_d)]) hx hb dX4_readSum_165 hl (k := 3) rfl rfl (by decide) rfl (fun ls hl => ?_)
                            have t_124 : (k_i + 1).toInt = k_i.toInt + 1 := g5_iadd (a := k_i.toInt) (b := 1) rfl (by decide) (by omega) (by omega)
                            refine lv_goto (tgt := 14) hx hb dX4_readSum_168 (by decide) ?_
                            exact ih_14_23 (3, (k_i + 1), z117, z118, z119, z120) ls H locs (show Int.toNat (400 - (k_i + 1).toInt) < Int.toNat (400 - k_i.toInt) from g_up (show k_i.toInt < (k_i + 1).toInt by omega) (show k_i.toInt < 400 by omega)) ⟨lv_sub hl [1, 0, 4, 5] rfl, hP, hD, hS, ⟨by decide, by decide⟩, ⟨by omega, by omega⟩, ⟨by omega, by omega⟩, i_113, i_112, by omega, i_114, opk_trans i_21 (opk_trans i_102 (i_115) (by omega)) (by omega), Or.inr (Or.inr (by decide))⟩
                        ·
                          have i_122 : z116.toInt = 0 := by have z := g5_neN (a := z116.toInt) (b := 0) (by rfl) (by decide) c_122; omega
                          refine lv_iconst (v := 0) hx hb dX4_readSum_144 (by decide) ?_
                          exact W.zret (v := 0) hx hb hr rfl (fun t ht hW => ⟨⟨0, [(a_r, (oc4 a_tk a_rh a_rs a_rc z117 z118 z119 e_fp)), (a_tk, (oc8 a_kd a_nm a_pl)), (a_kd, (arI G 401 f_kd)), (a_nm, (arI G 401 f_nm)), (a_rc, (arI G 400 z120))], rfl, ⟨0, z117, z118, z119, z120, ⟨by have zc_o_r : (0 : Int32).toInt = 0 := (by decide); omega, by have zc_o_r : (0 : Int32).toInt = 0 := (by decide); omega⟩, ⟨by omega, by omega⟩, i_112, i_113, i_114, opk_trans i_21 (opk_trans i_102 (i_115) (by omega)) (by omega), rfl, rfl⟩, by rw [ht]; exact hP.sub [0, 1, 2, 3, 4] rfl, hD.sub [0, 1, 2, 3, 4] (by decide) rfl⟩, hS.F ht⟩) hS.2.2 dX4_readSum_145
                      ·
                        exact absurd c_108 (by decide)
                    ·
                      exact absurd c_98 (by decide)
          ·
            obtain ⟨hP, hD⟩ := va_join (wr := [(a_nm, (arI G 401 f_nm)), (a_rc, (arI G 400 k_rc))]) hP hD [2, 3, 4] [0, 1] rfl rfl (by decide) (by decide) hk1 hFc hP1 hD1
            generalize H1 = H at hP hS ⊢
            refine g5_rs [(a_nm, (arI G 401 f_nm)), (a_rc, (arI G 400 k_rc)), (a_r, (oc4 a_tk a_rh a_rs a_rc k_ln k_pa k_at e_fp)), (a_tk, (oc8 a_kd a_nm a_pl)), (a_kd, (arI G 401 f_kd))] hP hD (fun hP hD => ?_)
            refine lv_if_eq (tgt := 47) hx hb dX4_readSum_40 (by decide) (fun c_125 => ?_) (fun c_125 => ?_)
            ·
              refine lv_aload_n hx hb dX4_readSum_47 rfl (lv_at hl 2 rfl) ?_
              refine lv_bipush (v := 42) hx hb dX4_readSum_48 (by decide) ?_
              obtain ⟨hPc, hDc, hFc⟩ := g5_sub3 (wc := [(a_r, (oc4 a_tk a_rh a_rs a_rc k_ln k_pa k_at e_fp)), (a_tk, (oc8 a_kd a_nm a_pl)), (a_kd, (arI G 401 f_kd))]) hP hD hS hA [2, 3, 4] (by decide) rfl
              refine va_calli (va_runV (As := [.int 42]) (rest := []) ⟨hx, hb, hml, hown, hts⟩ (r_isNext l G a_r a_tk a_kd a_rh a_rs a_rc a_nm a_pl H.size k_ln k_pa k_at e_fp 42 f_kd i_16 i_17 i_18) (cwV 1 hts gV_X4_49 rfl rfl rfl hv_X4_isNext ⟨by simp only [headSpec]; omega, by simp only [headSpec]; omega⟩) (g5_preV hPc hK hDc hN hT hS hFc (ci := 4) (q0 := 0) rfl rfl) rfl rfl hl.1 rfl (lv_room (Nat.le_of_ble_eq_true rfl)) dX4_readSum_50 ⟨Nat.le_of_ble_eq_true rfl, Nat.le_of_ble_eq_true rfl⟩) hS (fun q _ h => hFc q h) hFc (fun r u t H1 locs ht hvm hw hB hz1 hk1 hS => ?_)
              obtain ⟨hP1, hD1⟩ := hB
              rw [ht] at hP1
              rcases hw with ⟨i_126, i_127, rfl, rfl⟩ | ⟨rfl, rfl⟩
              ·
                have i_126 : k_at.toInt ≤ 400 := i_126
                have i_127 : f_kd k_at.toNatClampNeg = (42 : Int32) := i_127
                obtain ⟨hP, hD⟩ := va_join (wr := [(a_nm, (arI G 401 f_nm)), (a_rc, (arI G 400 k_rc))]) hP hD [2, 3, 4] [0, 1] rfl rfl (by decide) (by decide) hk1 hFc hP1 hD1
                generalize H1 = H at hP hS ⊢
                refine g5_rs [(a_nm, (arI G 401 f_nm)), (a_rc, (arI G 400 k_rc)), (a_r, (oc4 a_tk a_rh a_rs a_rc k_ln k_pa k_at e_fp)), (a_tk, (oc8 a_kd a_nm a_pl)), (a_kd, (arI G 401 f_kd))] hP hD (fun hP hD => ?_)
                refine lv_if_eq (tgt := 60) hx hb dX4_readSum_53 (by decide) (fun c_128 => ?_) (fun c_128 => ?_)
                ·
                  exact absurd c_128 (by decide)
                ·
                  refine lv_iconst (v := 4) hx hb dX4_readSum_56 (by decide) ?_
                  refine lv_goto (tgt := 74) hx hb dX4_readSum_57 (by decide) ?_
                  refine lv_istore (lv' := [(4, .int 4), (2, .int k_w), (3, .int k_i), (0, .ref a_r), (1, .int p_d)]) hx hb dX4_readSum_74 hl (by decide) rfl (fun ls hl => ?_)
                  refine lv_iload hx hb dX4_readSum_76 (lv_at hl 0 rfl) ?_
                  refine lv_iconst (v := 2) hx hb dX4_readSum_78 (by decide) ?_
                  refine lv_icmp_eq (tgt := 88) hx hb dX4_readSum_79 (by decide) (fun c_129 => ?_) (fun c_129 => ?_)
                  ·
                    exact absurd c_129 (by decide)
                  ·
                    refine lv_iload hx hb dX4_readSum_82 (lv_at hl 0 rfl) ?_
                    refine lv_iconst (v := 3) hx hb dX4_readSum_84 (by decide) ?_
                    refine lv_icmp_ne (tgt := 92) hx hb dX4_readSum_85 (by decide) (fun c_130 => ?_) (fun c_130 => ?_)
                    ·
                      refine lv_iconst (v := 0) hx hb dX4_readSum_92 (by decide) ?_
                      refine lv_istore (lv' := [(5, .int 0), (4, .int 4), (2, .int k_w), (3, .int k_i), (0, .ref a_r), (1, .int p_d)]) hx hb dX4_readSum_93 hl (by decide) rfl (fun ls hl => ?_)
                      refine lv_iload_n hx hb dX4_readSum_95 rfl (lv_at hl 2 rfl) ?_
                      refine lv_iconst (v := (-1)) hx hb dX4_readSum_96 (by decide) ?_
                      refine lv_icmp_eq (tgt := 118) hx hb dX4_readSum_97 (by decide) (fun c_131 => ?_) (fun c_131 => ?_)
                      ·
                        have i_131 : k_w.toInt = (-1) := by have z := g5_eq (a := k_w.toInt) (b := (-1)) (by rfl) (by decide) c_131; omega
                        refine lv_iload hx hb dX4_readSum_118 (lv_at hl 1 rfl) ?_
                        refine lv_iconst (v := (-1)) hx hb dX4_readSum_120 (by decide) ?_
                        refine lv_icmp_ne (tgt := 126) hx hb dX4_readSum_121 (by decide) (fun c_132 => ?_) (fun c_132 => ?_)
                        ·
                          refine lv_aload_n hx hb dX4_readSum_126 rfl (lv_at hl 4 rfl) ?_
                          refine lv_dup hx hb dX4_readSum_127 rfl ?_
                          refine va_get (D := G.1) (ci := 4) (v := .int k_at) (C := RX4) (T := TX4) (N := 8) hx hb hts inG_X4 hown hK hP 2 rfl rfl 6 (by decide) (hts _ fl_X4_42) (fun _ h9 => h9) rfl dX4_readSum_128 ?_
                          refine lv_iconst (v := 1) hx hb dX4_readSum_131 (by decide) ?_
                          refine lv_iadd hx hb dX4_readSum_132 ?_
                          have t_133 : (k_at + 1).toInt = k_at.toInt + 1 := g5_iadd (a := k_at.toInt) (b := 1) (by rfl) (by decide) (by omega) (by omega)
                          refine va_put (D := G.1) (ci := 4) (v := .int (k_at + 1)) (ty := .int) (C := RX4) (T := TX4) (N := 8) hx hb hts inG_X4 tyX4 tyX4_ok nmX4 hown hK hP hD hS 2 rfl rfl 6 (by decide) (hts _ fl_X4_42) (fun _ h9 => h9) rfl (by decide +kernel) rfl rfl (Nat.le_of_ble_eq_true rfl) dX4_readSum_133 (fun H locs hP hD hS => ?_)
                          refine g5_rs [(a_nm, (arI G 401 f_nm)), (a_rc, (arI G 400 k_rc)), (a_r, (oc4 a_tk a_rh a_rs a_rc k_ln k_pa (k_at + 1) e_fp)), (a_tk, (oc8 a_kd a_nm a_pl)), (a_kd, (arI G 401 f_kd))] hP hD (fun hP hD => ?_)
                          refine lv_aload_n hx hb dX4_readSum_136 rfl (lv_at hl 4 rfl) ?_
                          refine lv_iload_n hx hb dX4_readSum_137 rfl (lv_at hl 5 rfl) ?_
                          obtain ⟨hPc, hDc, hFc⟩ := g5_sub3 (wc := [(a_r, (oc4 a_tk a_rh a_rs a_rc k_ln k_pa (k_at + 1) e_fp)), (a_tk, (oc8 a_kd a_nm a_pl)), (a_kd, (arI G 401 f_kd)), (a_nm, (arI G 401 f_nm)), (a_rc, (arI G 400 k_rc))]) hP hD hS hA [2, 3, 4, 0, 1] (by decide) rfl
                          refine va_calli (va_runV (As := [.int p_d]) (rest := []) ⟨hx, hb, hml, hown, hts⟩ ((r_part fr lo p_d h_p_d h_sum) l G a_r a_tk a_kd a_nm a_rc a_rh a_rs a_pl H.size k_ln k_pa (k_at + 1) e_fp f_kd f_nm k_rc i_16 i_17 ⟨by omega, by omega⟩ (e_tk) (i_20)) (cwV 1 hts gV_X4_90 rfl rfl rfl hv_X4_readPart ⟨by simp only [headSpec]; omega, by simp only [headSpec]; omega⟩) (g5_preV hPc hK hDc hN hT hS hFc (ci := 4) (q0 := 0) rfl rfl) rfl rfl hl.1 rfl (lv_room (Nat.le_of_ble_eq_true rfl)) dX4_readSum_138 ⟨Nat.le_of_ble_eq_true rfl, Nat.le_of_ble_eq_true rfl⟩) hS (fun q _ h => hFc q h) hFc (fun r u t H1 locs ht hvm hw hB hz1 hk1 hS => ?_)
                          obtain ⟨hP1, hD1⟩ := hB
                          rw [ht] at hP1
                          obtain ⟨z140, z141, z142, z143, z144, i_134, i_135, i_136, i_137, i_138, i_139, y145, rfl⟩ := hw
                          have i_134 : 0 ≤ z140.toInt ∧ z140.toInt ≤ 1 := i_134
                          have i_135 : k_ln.toInt ≤ z141.toInt ∧ z141.toInt ≤ 400 := i_135
                          have i_136 : 0 ≤ z143.toInt ∧ z143.toInt ≤ 401 := i_136
                          have i_137 : 0 ≤ z142.toInt ∧ z142.toInt ≤ 50 := i_137
                          have i_138 : CDI z144 z141.toInt := i_138
                          have i_139 : OPK k_rc z144 k_ln.toInt := i_139
                          obtain ⟨hP, hD⟩ := va_join (wr := []) hP hD [2, 3, 4, 0, 1] [] rfl rfl (by decide) (by decide) hk1 hFc hP1 hD1
                          generalize H1 = H at hP hS ⊢
                          refine g5_rs [(a_r, (oc4 a_tk a_rh a_rs a_rc z141 z142 z143 e_fp)), (a_tk, (oc8 a_kd a_nm a_pl)), (a_kd, (arI G 401 f_kd)), (a_nm, (arI G 401 f_nm)), (a_rc, (arI G 400 z144))] hP hD (fun hP hD => ?_)
                          refine g5_ti (v := z140) y145 ?_
                          refine lv_if_ne (tgt := 146) hx hb dX4_readSum_141 (by decide) (fun c_146 => ?_) (fun c_146 => ?_)
                          ·
                            have n_146 : gNe (z140.toInt) (0) := by have z := g5_ne (a := z140.toInt) (b := 0) (by rfl) (by decide) c_146; unfold gNe; omega
                            have i_146 : z140.toInt ≥ 1 := by have z := g5_ne (a := z140.toInt) (b := 0) (by rfl) (by decide) c_146; omega
                            refine lv_iload hx hb dX4_readSum_146 (lv_at hl 0 rfl) ?_
                            refine lv_if_eq (tgt := 157) hx hb dX4_readSum_148 (by decide) (fun c_147 => ?_) (fun c_147 => ?_)
                            ·
                              refine lv_aload_n hx hb dX4_readSum_157 rfl (lv_at hl 4 rfl) ?_
                              refine lv_iload hx hb dX4_readSum_158 (lv_at hl 1 rfl) ?_
                              refine lv_iconst (v := 0) hx hb dX4_readSum_160 (by decide) ?_
                              obtain ⟨hPc, hDc, hFc⟩ := g5_sub3 (wc := [(a_r, (oc4 a_tk a_rh a_rs a_rc z141 z142 z143 e_fp)), (a_rc, (arI G 400 z144))]) hP hD hS hA [0, 4] (by decide) rfl
                              refine va_calli (va_runV (As := [.int 4, .int 0]) (rest := []) ⟨hx, hb, hml, hown, hts⟩ (r_emit l G a_r a_rc a_tk a_rh a_rs H.size z141 z142 z143 e_fp 4 0 z144 ⟨by omega, by omega⟩ i_137 i_136 (i_138) (by unfold wOK; decide)) (cwV 2 hts gV_X4_79 rfl rfl rfl hv_X4_emit ⟨by simp only [headSpec]; omega, by simp only [headSpec]; omega⟩) (g5_preV hPc hK hDc hN hT hS hFc (ci := 4) (q0 := 0) rfl rfl) rfl rfl hl.1 rfl (lv_room (Nat.le_of_ble_eq_true rfl)) dX4_readSum_161 ⟨Nat.le_of_ble_eq_true rfl, Nat.le_of_ble_eq_true rfl⟩) hS (fun q _ h => hFc q h) hFc (fun r u t H1 locs ht hvm hw hB hz1 hk1 hS => ?_)
                              obtain ⟨hP1, hD1⟩ := hB
                              rw [ht] at hP1
                              obtain ⟨z153, z154, z155, i_148, i_149, i_150, i_151, i_152, y156, rfl⟩ := hw
                              have i_148 : -1 ≤ z153.toInt ∧ z153.toInt ≤ 399 := i_148
                              have i_149 : z141.toInt ≤ z154.toInt ∧ z154.toInt ≤ 400 := i_149
                              have i_150 : CDI z155 z154.toInt := i_150
                              have i_151 : OPK z144 z155 z141.toInt := i_151
                              have i_152 : 0 ≤ z153.toInt → z153.toInt < z154.toInt ∧ z155 z153.toNatClampNeg = (((4 : Int32) <<< (12 &&& 31)) ||| (0 : Int32)) := i_152
                              obtain ⟨hP, hD⟩ := va_join (wr := [(a_tk, (oc8 a_kd a_nm a_pl)), (a_kd, (arI G 401 f_kd)), (a_nm, (arI G 401 f_nm))]) hP hD [0, 4] [1, 2, 3] rfl rfl (by decide) (by decide) hk1 hFc hP1 hD1
                              generalize H1 = H at hP hS ⊢
                              refine g5_rs [(a_tk, (oc8 a_kd a_nm a_pl)), (a_kd, (arI G 401 f_kd)), (a_nm, (arI G 401 f_nm)), (a_r, (oc4 a_tk a_rh a_rs a_rc z154 z142 z143 e_fp)), (a_rc, (arI G 400 z155))] hP hD (fun hP hD => ?_)
                              refine g5_ti (v := z153) y156 ?_
                              refine lv_pop hx hb dX4_readSum_164 rfl ?_
                              refine lv_iinc (v := (k_i + 1)) (lv' := [(3, .int (k_i + 1)), (5, .int 0), (4, .int 4), (2, .int k_w), (0, .ref a_r), (1, .int p_d)]) hx hb dX4_readSum_165 hl (k := 3) rfl rfl (by decide) rfl (fun ls hl => ?_)
                              have t_157 : (k_i + 1).toInt = k_i.toInt + 1 := g5_iadd (a := k_i.toInt) (b := 1) rfl (by decide) (by omega) (by omega)
                              refine lv_goto (tgt := 14) hx hb dX4_readSum_168 (by decide) ?_
                              exact ih_14_23 (k_w, (k_i + 1), z154, z142, z143, z155) ls H locs (show Int.toNat (400 - (k_i + 1).toInt) < Int.toNat (400 - k_i.toInt) from g_up (show k_i.toInt < (k_i + 1).toInt by omega) (show k_i.toInt < 400 by omega)) ⟨lv_sub hl [3, 0, 4, 5] rfl, hP.sub [3, 0, 1, 2, 4] rfl, hD.sub [3, 0, 1, 2, 4] (by decide) rfl, hS, i_14, ⟨by omega, by omega⟩, ⟨by omega, by omega⟩, i_137, i_136, by omega, i_150, opk_trans i_21 (opk_trans i_139 (i_151) (by omega)) (by omega), i_22⟩
                            ·
                              exact absurd c_147 (by decide)
                          ·
                            have i_146 : z140.toInt = 0 := by have z := g5_neN (a := z140.toInt) (b := 0) (by rfl) (by decide) c_146; omega
                            refine lv_iconst (v := 0) hx hb dX4_readSum_144 (by decide) ?_
                            exact W.zret (v := 0) hx hb hr rfl (fun t ht hW => ⟨⟨0, [(a_r, (oc4 a_tk a_rh a_rs a_rc z141 z142 z143 e_fp)), (a_tk, (oc8 a_kd a_nm a_pl)), (a_kd, (arI G 401 f_kd)), (a_nm, (arI G 401 f_nm)), (a_rc, (arI G 400 z144))], rfl, ⟨0, z141, z142, z143, z144, ⟨by have zc_o_r : (0 : Int32).toInt = 0 := (by decide); omega, by have zc_o_r : (0 : Int32).toInt = 0 := (by decide); omega⟩, ⟨by omega, by omega⟩, i_136, i_137, i_138, opk_trans i_21 (i_139) (by omega), rfl, rfl⟩, by rw [ht]; exact hP.sub [0, 1, 2, 3, 4] rfl, hD.sub [0, 1, 2, 3, 4] (by decide) rfl⟩, hS.F ht⟩) hS.2.2 dX4_readSum_145
                        ·
                          exact absurd c_132 (by decide)
                      ·
                        have n_131 : gNe (k_w.toInt) ((-1)) := by have z := g5_eqN (a := k_w.toInt) (b := (-1)) (by rfl) (by decide) c_131; unfold gNe; omega
                        have i_131 : k_w.toInt ≥ 0 := by have z := g5_eqN (a := k_w.toInt) (b := (-1)) (by rfl) (by decide) c_131; omega
                        refine lv_iload hx hb dX4_readSum_100 (lv_at hl 0 rfl) ?_
                        refine lv_if_ne (tgt := 111) hx hb dX4_readSum_102 (by decide) (fun c_158 => ?_) (fun c_158 => ?_)
                        ·
                          exact absurd c_158 (by decide)
                        ·
                          refine lv_iload hx hb dX4_readSum_105 (lv_at hl 1 rfl) ?_
                          refine lv_iconst (v := (-1)) hx hb dX4_readSum_107 (by decide) ?_
                          refine lv_icmp_ne (tgt := 118) hx hb dX4_readSum_108 (by decide) (fun c_159 => ?_) (fun c_159 => ?_)
                          ·
                            refine lv_iload hx hb dX4_readSum_118 (lv_at hl 1 rfl) ?_
                            refine lv_iconst (v := (-1)) hx hb dX4_readSum_120 (by decide) ?_
                            refine lv_icmp_ne (tgt := 126) hx hb dX4_readSum_121 (by decide) (fun c_160 => ?_) (fun c_160 => ?_)
                            ·
                              refine lv_aload_n hx hb dX4_readSum_126 rfl (lv_at hl 4 rfl) ?_
                              refine lv_dup hx hb dX4_readSum_127 rfl ?_
                              refine va_get (D := G.1) (ci := 4) (v := .int k_at) (C := RX4) (T := TX4) (N := 8) hx hb hts inG_X4 hown hK hP 2 rfl rfl 6 (by decide) (hts _ fl_X4_42) (fun _ h9 => h9) rfl dX4_readSum_128 ?_
                              refine lv_iconst (v := 1) hx hb dX4_readSum_131 (by decide) ?_
                              refine lv_iadd hx hb dX4_readSum_132 ?_
                              have t_161 : (k_at + 1).toInt = k_at.toInt + 1 := g5_iadd (a := k_at.toInt) (b := 1) (by rfl) (by decide) (by omega) (by omega)
                              refine va_put (D := G.1) (ci := 4) (v := .int (k_at + 1)) (ty := .int) (C := RX4) (T := TX4) (N := 8) hx hb hts inG_X4 tyX4 tyX4_ok nmX4 hown hK hP hD hS 2 rfl rfl 6 (by decide) (hts _ fl_X4_42) (fun _ h9 => h9) rfl (by decide +kernel) rfl rfl (Nat.le_of_ble_eq_true rfl) dX4_readSum_133 (fun H locs hP hD hS => ?_)
                              refine g5_rs [(a_nm, (arI G 401 f_nm)), (a_rc, (arI G 400 k_rc)), (a_r, (oc4 a_tk a_rh a_rs a_rc k_ln k_pa (k_at + 1) e_fp)), (a_tk, (oc8 a_kd a_nm a_pl)), (a_kd, (arI G 401 f_kd))] hP hD (fun hP hD => ?_)
                              refine lv_aload_n hx hb dX4_readSum_136 rfl (lv_at hl 4 rfl) ?_
                              refine lv_iload_n hx hb dX4_readSum_137 rfl (lv_at hl 5 rfl) ?_
                              obtain ⟨hPc, hDc, hFc⟩ := g5_sub3 (wc := [(a_r, (oc4 a_tk a_rh a_rs a_rc k_ln k_pa (k_at + 1) e_fp)), (a_tk, (oc8 a_kd a_nm a_pl)), (a_kd, (arI G 401 f_kd)), (a_nm, (arI G 401 f_nm)), (a_rc, (arI G 400 k_rc))]) hP hD hS hA [2, 3, 4, 0, 1] (by decide) rfl
                              refine va_calli (va_runV (As := [.int p_d]) (rest := []) ⟨hx, hb, hml, hown, hts⟩ ((r_part fr lo p_d h_p_d h_sum) l G a_r a_tk a_kd a_nm a_rc a_rh a_rs a_pl H.size k_ln k_pa (k_at + 1) e_fp f_kd f_nm k_rc i_16 i_17 ⟨by omega, by omega⟩ (e_tk) (i_20)) (cwV 1 hts gV_X4_90 rfl rfl rfl hv_X4_readPart ⟨by simp only [headSpec]; omega, by simp only [headSpec]; omega⟩) (g5_preV hPc hK hDc hN hT hS hFc (ci := 4) (q0 := 0) rfl rfl) rfl rfl hl.1 rfl (lv_room (Nat.le_of_ble_eq_true rfl)) dX4_readSum_138 ⟨Nat.le_of_ble_eq_true rfl, Nat.le_of_ble_eq_true rfl⟩) hS (fun q _ h => hFc q h) hFc (fun r u t H1 locs ht hvm hw hB hz1 hk1 hS => ?_)
                              obtain ⟨hP1, hD1⟩ := hB
                              rw [ht] at hP1
                              obtain ⟨z168, z169, z170, z171, z172, i_162, i_163, i_164, i_165, i_166, i_167, y173, rfl⟩ := hw
                              have i_162 : 0 ≤ z168.toInt ∧ z168.toInt ≤ 1 := i_162
                              have i_163 : k_ln.toInt ≤ z169.toInt ∧ z169.toInt ≤ 400 := i_163
                              have i_164 : 0 ≤ z171.toInt ∧ z171.toInt ≤ 401 := i_164
                              have i_165 : 0 ≤ z170.toInt ∧ z170.toInt ≤ 50 := i_165
                              have i_166 : CDI z172 z169.toInt := i_166
                              have i_167 : OPK k_rc z172 k_ln.toInt := i_167
                              obtain ⟨hP, hD⟩ := va_join (wr := []) hP hD [2, 3, 4, 0, 1] [] rfl rfl (by decide) (by decide) hk1 hFc hP1 hD1
                              generalize H1 = H at hP hS ⊢
                              refine g5_rs [(a_r, (oc4 a_tk a_rh a_rs a_rc z169 z170 z171 e_fp)), (a_tk, (oc8 a_kd a_nm a_pl)), (a_kd, (arI G 401 f_kd)), (a_nm, (arI G 401 f_nm)), (a_rc, (arI G 400 z172))] hP hD (fun hP hD => ?_)
                              refine g5_ti (v := z168) y173 ?_
                              refine lv_if_ne (tgt := 146) hx hb dX4_readSum_141 (by decide) (fun c_174 => ?_) (fun c_174 => ?_)
                              ·
                                have n_174 : gNe (z168.toInt) (0) := by have z := g5_ne (a := z168.toInt) (b := 0) (by rfl) (by decide) c_174; unfold gNe; omega
                                have i_174 : z168.toInt ≥ 1 := by have z := g5_ne (a := z168.toInt) (b := 0) (by rfl) (by decide) c_174; omega
                                refine lv_iload hx hb dX4_readSum_146 (lv_at hl 0 rfl) ?_
                                refine lv_if_eq (tgt := 157) hx hb dX4_readSum_148 (by decide) (fun c_175 => ?_) (fun c_175 => ?_)
                                ·
                                  refine lv_aload_n hx hb dX4_readSum_157 rfl (lv_at hl 4 rfl) ?_
                                  refine lv_iload hx hb dX4_readSum_158 (lv_at hl 1 rfl) ?_
                                  refine lv_iconst (v := 0) hx hb dX4_readSum_160 (by decide) ?_
                                  obtain ⟨hPc, hDc, hFc⟩ := g5_sub3 (wc := [(a_r, (oc4 a_tk a_rh a_rs a_rc z169 z170 z171 e_fp)), (a_rc, (arI G 400 z172))]) hP hD hS hA [0, 4] (by decide) rfl
                                  refine va_calli (va_runV (As := [.int 4, .int 0]) (rest := []) ⟨hx, hb, hml, hown, hts⟩ (r_emit l G a_r a_rc a_tk a_rh a_rs H.size z169 z170 z171 e_fp 4 0 z172 ⟨by omega, by omega⟩ i_165 i_164 (i_166) (by unfold wOK; decide)) (cwV 2 hts gV_X4_79 rfl rfl rfl hv_X4_emit ⟨by simp only [headSpec]; omega, by simp only [headSpec]; omega⟩) (g5_preV hPc hK hDc hN hT hS hFc (ci := 4) (q0 := 0) rfl rfl) rfl rfl hl.1 rfl (lv_room (Nat.le_of_ble_eq_true rfl)) dX4_readSum_161 ⟨Nat.le_of_ble_eq_true rfl, Nat.le_of_ble_eq_true rfl⟩) hS (fun q _ h => hFc q h) hFc (fun r u t H1 locs ht hvm hw hB hz1 hk1 hS => ?_)
                                  obtain ⟨hP1, hD1⟩ := hB
                                  rw [ht] at hP1
                                  obtain ⟨z181, z182, z183, i_176, i_177, i_178, i_179, i_180, y184, rfl⟩ := hw
                                  have i_176 : -1 ≤ z181.toInt ∧ z181.toInt ≤ 399 := i_176
                                  have i_177 : z169.toInt ≤ z182.toInt ∧ z182.toInt ≤ 400 := i_177
                                  have i_178 : CDI z183 z182.toInt := i_178
                                  have i_179 : OPK z172 z183 z169.toInt := i_179
                                  have i_180 : 0 ≤ z181.toInt → z181.toInt < z182.toInt ∧ z183 z181.toNatClampNeg = (((4 : Int32) <<< (12 &&& 31)) ||| (0 : Int32)) := i_180
                                  obtain ⟨hP, hD⟩ := va_join (wr := [(a_tk, (oc8 a_kd a_nm a_pl)), (a_kd, (arI G 401 f_kd)), (a_nm, (arI G 401 f_nm))]) hP hD [0, 4] [1, 2, 3] rfl rfl (by decide) (by decide) hk1 hFc hP1 hD1
                                  generalize H1 = H at hP hS ⊢
                                  refine g5_rs [(a_tk, (oc8 a_kd a_nm a_pl)), (a_kd, (arI G 401 f_kd)), (a_nm, (arI G 401 f_nm)), (a_r, (oc4 a_tk a_rh a_rs a_rc z182 z170 z171 e_fp)), (a_rc, (arI G 400 z183))] hP hD (fun hP hD => ?_)
                                  refine g5_ti (v := z181) y184 ?_
                                  refine lv_pop hx hb dX4_readSum_164 rfl ?_
                                  refine lv_iinc (v := (k_i + 1)) (lv' := [(3, .int (k_i + 1)), (5, .int 0), (4, .int 4), (2, .int k_w), (0, .ref a_r), (1, .int p_d)]) hx hb dX4_readSum_165 hl (k := 3) rfl rfl (by decide) rfl (fun ls hl => ?_)
                                  have t_185 : (k_i + 1).toInt = k_i.toInt + 1 := g5_iadd (a := k_i.toInt) (b := 1) rfl (by decide) (by omega) (by omega)
                                  refine lv_goto (tgt := 14) hx hb dX4_readSum_168 (by decide) ?_
                                  exact ih_14_23 (k_w, (k_i + 1), z182, z170, z171, z183) ls H locs (show Int.toNat (400 - (k_i + 1).toInt) < Int.toNat (400 - k_i.toInt) from g_up (show k_i.toInt < (k_i + 1).toInt by omega) (show k_i.toInt < 400 by omega)) ⟨lv_sub hl [3, 0, 4, 5] rfl, hP.sub [3, 0, 1, 2, 4] rfl, hD.sub [3, 0, 1, 2, 4] (by decide) rfl, hS, i_14, ⟨by omega, by omega⟩, ⟨by omega, by omega⟩, i_165, i_164, by omega, i_178, opk_trans i_21 (opk_trans i_167 (i_179) (by omega)) (by omega), i_22⟩
                                ·
                                  exact absurd c_175 (by decide)
                              ·
                                have i_174 : z168.toInt = 0 := by have z := g5_neN (a := z168.toInt) (b := 0) (by rfl) (by decide) c_174; omega
                                refine lv_iconst (v := 0) hx hb dX4_readSum_144 (by decide) ?_
                                exact W.zret (v := 0) hx hb hr rfl (fun t ht hW => ⟨⟨0, [(a_r, (oc4 a_tk a_rh a_rs a_rc z169 z170 z171 e_fp)), (a_tk, (oc8 a_kd a_nm a_pl)), (a_kd, (arI G 401 f_kd)), (a_nm, (arI G 401 f_nm)), (a_rc, (arI G 400 z172))], rfl, ⟨0, z169, z170, z171, z172, ⟨by have zc_o_r : (0 : Int32).toInt = 0 := (by decide); omega, by have zc_o_r : (0 : Int32).toInt = 0 := (by decide); omega⟩, ⟨by omega, by omega⟩, i_164, i_165, i_166, opk_trans i_21 (i_167) (by omega), rfl, rfl⟩, by rw [ht]; exact hP.sub [0, 1, 2, 3, 4] rfl, hD.sub [0, 1, 2, 3, 4] (by decide) rfl⟩, hS.F ht⟩) hS.2.2 dX4_readSum_145
                            ·
                              exact absurd c_160 (by decide)
                          ·
                            exact absurd c_159 (by decide)
                    ·
                      exact absurd c_130 (by decide)
              ·
                obtain ⟨hP, hD⟩ := va_join (wr := [(a_nm, (arI G 401 f_nm)), (a_rc, (arI G 400 k_rc))]) hP hD [2, 3, 4] [0, 1] rfl rfl (by decide) (by decide) hk1 hFc hP1 hD1
                generalize H1 = H at hP hS ⊢
                refine g5_rs [(a_nm, (arI G 401 f_nm)), (a_rc, (arI G 400 k_rc)), (a_r, (oc4 a_tk a_rh a_rs a_rc k_ln k_pa k_at e_fp)), (a_tk, (oc8 a_kd a_nm a_pl)), (a_kd, (arI G 401 f_kd))] hP hD (fun hP hD => ?_)
                refine lv_if_eq (tgt := 60) hx hb dX4_readSum_53 (by decide) (fun c_186 => ?_) (fun c_186 => ?_)
                ·
                  refine lv_aload_n hx hb dX4_readSum_60 rfl (lv_at hl 2 rfl) ?_
                  refine lv_bipush (v := 47) hx hb dX4_readSum_61 (by decide) ?_
                  obtain ⟨hPc, hDc, hFc⟩ := g5_sub3 (wc := [(a_r, (oc4 a_tk a_rh a_rs a_rc k_ln k_pa k_at e_fp)), (a_tk, (oc8 a_kd a_nm a_pl)), (a_kd, (arI G 401 f_kd))]) hP hD hS hA [2, 3, 4] (by decide) rfl
                  refine va_calli (va_runV (As := [.int 47]) (rest := []) ⟨hx, hb, hml, hown, hts⟩ (r_isNext l G a_r a_tk a_kd a_rh a_rs a_rc a_nm a_pl H.size k_ln k_pa k_at e_fp 47 f_kd i_16 i_17 i_18) (cwV 1 hts gV_X4_49 rfl rfl rfl hv_X4_isNext ⟨by simp only [headSpec]; omega, by simp only [headSpec]; omega⟩) (g5_preV hPc hK hDc hN hT hS hFc (ci := 4) (q0 := 0) rfl rfl) rfl rfl hl.1 rfl (lv_room (Nat.le_of_ble_eq_true rfl)) dX4_readSum_63 ⟨Nat.le_of_ble_eq_true rfl, Nat.le_of_ble_eq_true rfl⟩) hS (fun q _ h => hFc q h) hFc (fun r u t H1 locs ht hvm hw hB hz1 hk1 hS => ?_)
                  obtain ⟨hP1, hD1⟩ := hB
                  rw [ht] at hP1
                  rcases hw with ⟨i_187, i_188, rfl, rfl⟩ | ⟨rfl, rfl⟩
                  ·
                    have i_187 : k_at.toInt ≤ 400 := i_187
                    have i_188 : f_kd k_at.toNatClampNeg = (47 : Int32) := i_188
                    obtain ⟨hP, hD⟩ := va_join (wr := [(a_nm, (arI G 401 f_nm)), (a_rc, (arI G 400 k_rc))]) hP hD [2, 3, 4] [0, 1] rfl rfl (by decide) (by decide) hk1 hFc hP1 hD1
                    generalize H1 = H at hP hS ⊢
                    refine g5_rs [(a_nm, (arI G 401 f_nm)), (a_rc, (arI G 400 k_rc)), (a_r, (oc4 a_tk a_rh a_rs a_rc k_ln k_pa k_at e_fp)), (a_tk, (oc8 a_kd a_nm a_pl)), (a_kd, (arI G 401 f_kd))] hP hD (fun hP hD => ?_)
                    refine lv_if_eq (tgt := 73) hx hb dX4_readSum_66 (by decide) (fun c_189 => ?_) (fun c_189 => ?_)
                    ·
                      exact absurd c_189 (by decide)
                    ·
                      refine lv_iconst (v := 5) hx hb dX4_readSum_69 (by decide) ?_
                      refine lv_goto (tgt := 74) hx hb dX4_readSum_70 (by decide) ?_
                      refine lv_istore (lv' := [(4, .int 5), (2, .int k_w), (3, .int k_i), (0, .ref a_r), (1, .int p_d)]) hx hb dX4_readSum_74 hl (by decide) rfl (fun ls hl => ?_)
                      refine lv_iload hx hb dX4_readSum_76 (lv_at hl 0 rfl) ?_
                      refine lv_iconst (v := 2) hx hb dX4_readSum_78 (by decide) ?_
                      refine lv_icmp_eq (tgt := 88) hx hb dX4_readSum_79 (by decide) (fun c_190 => ?_) (fun c_190 => ?_)
                      ·
                        exact absurd c_190 (by decide)
                      ·
                        refine lv_iload hx hb dX4_readSum_82 (lv_at hl 0 rfl) ?_
                        refine lv_iconst (v := 3) hx hb dX4_readSum_84 (by decide) ?_
                        refine lv_icmp_ne (tgt := 92) hx hb dX4_readSum_85 (by decide) (fun c_191 => ?_) (fun c_191 => ?_)
                        ·
                          refine lv_iconst (v := 0) hx hb dX4_readSum_92 (by decide) ?_
                          refine lv_istore (lv' := [(5, .int 0), (4, .int 5), (2, .int k_w), (3, .int k_i), (0, .ref a_r), (1, .int p_d)]) hx hb dX4_readSum_93 hl (by decide) rfl (fun ls hl => ?_)
                          refine lv_iload_n hx hb dX4_readSum_95 rfl (lv_at hl 2 rfl) ?_
                          refine lv_iconst (v := (-1)) hx hb dX4_readSum_96 (by decide) ?_
                          refine lv_icmp_eq (tgt := 118) hx hb dX4_readSum_97 (by decide) (fun c_192 => ?_) (fun c_192 => ?_)
                          ·
                            have i_192 : k_w.toInt = (-1) := by have z := g5_eq (a := k_w.toInt) (b := (-1)) (by rfl) (by decide) c_192; omega
                            refine lv_iload hx hb dX4_readSum_118 (lv_at hl 1 rfl) ?_
                            refine lv_iconst (v := (-1)) hx hb dX4_readSum_120 (by decide) ?_
                            refine lv_icmp_ne (tgt := 126) hx hb dX4_readSum_121 (by decide) (fun c_193 => ?_) (fun c_193 => ?_)
                            ·
                              refine lv_aload_n hx hb dX4_readSum_126 rfl (lv_at hl 4 rfl) ?_
                              refine lv_dup hx hb dX4_readSum_127 rfl ?_
                              refine va_get (D := G.1) (ci := 4) (v := .int k_at) (C := RX4) (T := TX4) (N := 8) hx hb hts inG_X4 hown hK hP 2 rfl rfl 6 (by decide) (hts _ fl_X4_42) (fun _ h9 => h9) rfl dX4_readSum_128 ?_
                              refine lv_iconst (v := 1) hx hb dX4_readSum_131 (by decide) ?_
                              refine lv_iadd hx hb dX4_readSum_132 ?_
                              have t_194 : (k_at + 1).toInt = k_at.toInt + 1 := g5_iadd (a := k_at.toInt) (b := 1) (by rfl) (by decide) (by omega) (by omega)
                              refine va_put (D := G.1) (ci := 4) (v := .int (k_at + 1)) (ty := .int) (C := RX4) (T := TX4) (N := 8) hx hb hts inG_X4 tyX4 tyX4_ok nmX4 hown hK hP hD hS 2 rfl rfl 6 (by decide) (hts _ fl_X4_42) (fun _ h9 => h9) rfl (by decide +kernel) rfl rfl (Nat.le_of_ble_eq_true rfl) dX4_readSum_133 (fun H locs hP hD hS => ?_)
                              refine g5_rs [(a_nm, (arI G 401 f_nm)), (a_rc, (arI G 400 k_rc)), (a_r, (oc4 a_tk a_rh a_rs a_rc k_ln k_pa (k_at + 1) e_fp)), (a_tk, (oc8 a_kd a_nm a_pl)), (a_kd, (arI G 401 f_kd))] hP hD (fun hP hD => ?_)
                              refine lv_aload_n hx hb dX4_readSum_136 rfl (lv_at hl 4 rfl) ?_
                              refine lv_iload_n hx hb dX4_readSum_137 rfl (lv_at hl 5 rfl) ?_
                              obtain ⟨hPc, hDc, hFc⟩ := g5_sub3 (wc := [(a_r, (oc4 a_tk a_rh a_rs a_rc k_ln k_pa (k_at + 1) e_fp)), (a_tk, (oc8 a_kd a_nm a_pl)), (a_kd, (arI G 401 f_kd)), (a_nm, (arI G 401 f_nm)), (a_rc, (arI G 400 k_rc))]) hP hD hS hA [2, 3, 4, 0, 1] (by decide) rfl
                              refine va_calli (va_runV (As := [.int p_d]) (rest := []) ⟨hx, hb, hml, hown, hts⟩ ((r_part fr lo p_d h_p_d h_sum) l G a_r a_tk a_kd a_nm a_rc a_rh a_rs a_pl H.size k_ln k_pa (k_at + 1) e_fp f_kd f_nm k_rc i_16 i_17 ⟨by omega, by omega⟩ (e_tk) (i_20)) (cwV 1 hts gV_X4_90 rfl rfl rfl hv_X4_readPart ⟨by simp only [headSpec]; omega, by simp only [headSpec]; omega⟩) (g5_preV hPc hK hDc hN hT hS hFc (ci := 4) (q0 := 0) rfl rfl) rfl rfl hl.1 rfl (lv_room (Nat.le_of_ble_eq_true rfl)) dX4_readSum_138 ⟨Nat.le_of_ble_eq_true rfl, Nat.le_of_ble_eq_true rfl⟩) hS (fun q _ h => hFc q h) hFc (fun r u t H1 locs ht hvm hw hB hz1 hk1 hS => ?_)
                              obtain ⟨hP1, hD1⟩ := hB
                              rw [ht] at hP1
                              obtain ⟨z201, z202, z203, z204, z205, i_195, i_196, i_197, i_198, i_199, i_200, y206, rfl⟩ := hw
                              have i_195 : 0 ≤ z201.toInt ∧ z201.toInt ≤ 1 := i_195
                              have i_196 : k_ln.toInt ≤ z202.toInt ∧ z202.toInt ≤ 400 := i_196
                              have i_197 : 0 ≤ z204.toInt ∧ z204.toInt ≤ 401 := i_197
                              have i_198 : 0 ≤ z203.toInt ∧ z203.toInt ≤ 50 := i_198
                              have i_199 : CDI z205 z202.toInt := i_199
                              have i_200 : OPK k_rc z205 k_ln.toInt := i_200
                              obtain ⟨hP, hD⟩ := va_join (wr := []) hP hD [2, 3, 4, 0, 1] [] rfl rfl (by decide) (by decide) hk1 hFc hP1 hD1
                              generalize H1 = H at hP hS ⊢
                              refine g5_rs [(a_r, (oc4 a_tk a_rh a_rs a_rc z202 z203 z204 e_fp)), (a_tk, (oc8 a_kd a_nm a_pl)), (a_kd, (arI G 401 f_kd)), (a_nm, (arI G 401 f_nm)), (a_rc, (arI G 400 z205))] hP hD (fun hP hD => ?_)
                              refine g5_ti (v := z201) y206 ?_
                              refine lv_if_ne (tgt := 146) hx hb dX4_readSum_141 (by decide) (fun c_207 => ?_) (fun c_207 => ?_)
                              ·
                                have n_207 : gNe (z201.toInt) (0) := by have z := g5_ne (a := z201.toInt) (b := 0) (by rfl) (by decide) c_207; unfold gNe; omega
                                have i_207 : z201.toInt ≥ 1 := by have z := g5_ne (a := z201.toInt) (b := 0) (by rfl) (by decide) c_207; omega
                                refine lv_iload hx hb dX4_readSum_146 (lv_at hl 0 rfl) ?_
                                refine lv_if_eq (tgt := 157) hx hb dX4_readSum_148 (by decide) (fun c_208 => ?_) (fun c_208 => ?_)
                                ·
                                  refine lv_aload_n hx hb dX4_readSum_157 rfl (lv_at hl 4 rfl) ?_
                                  refine lv_iload hx hb dX4_readSum_158 (lv_at hl 1 rfl) ?_
                                  refine lv_iconst (v := 0) hx hb dX4_readSum_160 (by decide) ?_
                                  obtain ⟨hPc, hDc, hFc⟩ := g5_sub3 (wc := [(a_r, (oc4 a_tk a_rh a_rs a_rc z202 z203 z204 e_fp)), (a_rc, (arI G 400 z205))]) hP hD hS hA [0, 4] (by decide) rfl
                                  refine va_calli (va_runV (As := [.int 5, .int 0]) (rest := []) ⟨hx, hb, hml, hown, hts⟩ (r_emit l G a_r a_rc a_tk a_rh a_rs H.size z202 z203 z204 e_fp 5 0 z205 ⟨by omega, by omega⟩ i_198 i_197 (i_199) (by unfold wOK; decide)) (cwV 2 hts gV_X4_79 rfl rfl rfl hv_X4_emit ⟨by simp only [headSpec]; omega, by simp only [headSpec]; omega⟩) (g5_preV hPc hK hDc hN hT hS hFc (ci := 4) (q0 := 0) rfl rfl) rfl rfl hl.1 rfl (lv_room (Nat.le_of_ble_eq_true rfl)) dX4_readSum_161 ⟨Nat.le_of_ble_eq_true rfl, Nat.le_of_ble_eq_true rfl⟩) hS (fun q _ h => hFc q h) hFc (fun r u t H1 locs ht hvm hw hB hz1 hk1 hS => ?_)
                                  obtain ⟨hP1, hD1⟩ := hB
                                  rw [ht] at hP1
                                  obtain ⟨z214, z215, z216, i_209, i_210, i_211, i_212, i_213, y217, rfl⟩ := hw
                                  have i_209 : -1 ≤ z214.toInt ∧ z214.toInt ≤ 399 := i_209
                                  have i_210 : z202.toInt ≤ z215.toInt ∧ z215.toInt ≤ 400 := i_210
                                  have i_211 : CDI z216 z215.toInt := i_211
                                  have i_212 : OPK z205 z216 z202.toInt := i_212
                                  have i_213 : 0 ≤ z214.toInt → z214.toInt < z215.toInt ∧ z216 z214.toNatClampNeg = (((5 : Int32) <<< (12 &&& 31)) ||| (0 : Int32)) := i_213
                                  obtain ⟨hP, hD⟩ := va_join (wr := [(a_tk, (oc8 a_kd a_nm a_pl)), (a_kd, (arI G 401 f_kd)), (a_nm, (arI G 401 f_nm))]) hP hD [0, 4] [1, 2, 3] rfl rfl (by decide) (by decide) hk1 hFc hP1 hD1
                                  generalize H1 = H at hP hS ⊢
                                  refine g5_rs [(a_tk, (oc8 a_kd a_nm a_pl)), (a_kd, (arI G 401 f_kd)), (a_nm, (arI G 401 f_nm)), (a_r, (oc4 a_tk a_rh a_rs a_rc z215 z203 z204 e_fp)), (a_rc, (arI G 400 z216))] hP hD (fun hP hD => ?_)
                                  refine g5_ti (v := z214) y217 ?_
                                  refine lv_pop hx hb dX4_readSum_164 rfl ?_
                                  refine lv_iinc (v := (k_i + 1)) (lv' := [(3, .int (k_i + 1)), (5, .int 0), (4, .int 5), (2, .int k_w), (0, .ref a_r), (1, .int p_d)]) hx hb dX4_readSum_165 hl (k := 3) rfl rfl (by decide) rfl (fun ls hl => ?_)
                                  have t_218 : (k_i + 1).toInt = k_i.toInt + 1 := g5_iadd (a := k_i.toInt) (b := 1) rfl (by decide) (by omega) (by omega)
                                  refine lv_goto (tgt := 14) hx hb dX4_readSum_168 (by decide) ?_
                                  exact ih_14_23 (k_w, (k_i + 1), z215, z203, z204, z216) ls H locs (show Int.toNat (400 - (k_i + 1).toInt) < Int.toNat (400 - k_i.toInt) from g_up (show k_i.toInt < (k_i + 1).toInt by omega) (show k_i.toInt < 400 by omega)) ⟨lv_sub hl [3, 0, 4, 5] rfl, hP.sub [3, 0, 1, 2, 4] rfl, hD.sub [3, 0, 1, 2, 4] (by decide) rfl, hS, i_14, ⟨by omega, by omega⟩, ⟨by omega, by omega⟩, i_198, i_197, by omega, i_211, opk_trans i_21 (opk_trans i_200 (i_212) (by omega)) (by omega), i_22⟩
                                ·
                                  exact absurd c_208 (by decide)
                              ·
                                have i_207 : z201.toInt = 0 := by have z := g5_neN (a := z201.toInt) (b := 0) (by rfl) (by decide) c_207; omega
                                refine lv_iconst (v := 0) hx hb dX4_readSum_144 (by decide) ?_
                                exact W.zret (v := 0) hx hb hr rfl (fun t ht hW => ⟨⟨0, [(a_r, (oc4 a_tk a_rh a_rs a_rc z202 z203 z204 e_fp)), (a_tk, (oc8 a_kd a_nm a_pl)), (a_kd, (arI G 401 f_kd)), (a_nm, (arI G 401 f_nm)), (a_rc, (arI G 400 z205))], rfl, ⟨0, z202, z203, z204, z205, ⟨by have zc_o_r : (0 : Int32).toInt = 0 := (by decide); omega, by have zc_o_r : (0 : Int32).toInt = 0 := (by decide); omega⟩, ⟨by omega, by omega⟩, i_197, i_198, i_199, opk_trans i_21 (i_200) (by omega), rfl, rfl⟩, by rw [ht]; exact hP.sub [0, 1, 2, 3, 4] rfl, hD.sub [0, 1, 2, 3, 4] (by decide) rfl⟩, hS.F ht⟩) hS.2.2 dX4_readSum_145
                            ·
                              exact absurd c_193 (by decide)
                          ·
                            have n_192 : gNe (k_w.toInt) ((-1)) := by have z := g5_eqN (a := k_w.toInt) (b := (-1)) (by rfl) (by decide) c_192; unfold gNe; omega
                            have i_192 : k_w.toInt ≥ 0 := by have z := g5_eqN (a := k_w.toInt) (b := (-1)) (by rfl) (by decide) c_192; omega
                            refine lv_iload hx hb dX4_readSum_100 (lv_at hl 0 rfl) ?_
                            refine lv_if_ne (tgt := 111) hx hb dX4_readSum_102 (by decide) (fun c_219 => ?_) (fun c_219 => ?_)
                            ·
                              exact absurd c_219 (by decide)
                            ·
                              refine lv_iload hx hb dX4_readSum_105 (lv_at hl 1 rfl) ?_
                              refine lv_iconst (v := (-1)) hx hb dX4_readSum_107 (by decide) ?_
                              refine lv_icmp_ne (tgt := 118) hx hb dX4_readSum_108 (by decide) (fun c_220 => ?_) (fun c_220 => ?_)
                              ·
                                refine lv_iload hx hb dX4_readSum_118 (lv_at hl 1 rfl) ?_
                                refine lv_iconst (v := (-1)) hx hb dX4_readSum_120 (by decide) ?_
                                refine lv_icmp_ne (tgt := 126) hx hb dX4_readSum_121 (by decide) (fun c_221 => ?_) (fun c_221 => ?_)
                                ·
                                  refine lv_aload_n hx hb dX4_readSum_126 rfl (lv_at hl 4 rfl) ?_
                                  refine lv_dup hx hb dX4_readSum_127 rfl ?_
                                  refine va_get (D := G.1) (ci := 4) (v := .int k_at) (C := RX4) (T := TX4) (N := 8) hx hb hts inG_X4 hown hK hP 2 rfl rfl 6 (by decide) (hts _ fl_X4_42) (fun _ h9 => h9) rfl dX4_readSum_128 ?_
                                  refine lv_iconst (v := 1) hx hb dX4_readSum_131 (by decide) ?_
                                  refine lv_iadd hx hb dX4_readSum_132 ?_
                                  have t_222 : (k_at + 1).toInt = k_at.toInt + 1 := g5_iadd (a := k_at.toInt) (b := 1) (by rfl) (by decide) (by omega) (by omega)
                                  refine va_put (D := G.1) (ci := 4) (v := .int (k_at + 1)) (ty := .int) (C := RX4) (T := TX4) (N := 8) hx hb hts inG_X4 tyX4 tyX4_ok nmX4 hown hK hP hD hS 2 rfl rfl 6 (by decide) (hts _ fl_X4_42) (fun _ h9 => h9) rfl (by decide +kernel) rfl rfl (Nat.le_of_ble_eq_true rfl) dX4_readSum_133 (fun H locs hP hD hS => ?_)
                                  refine g5_rs [(a_nm, (arI G 401 f_nm)), (a_rc, (arI G 400 k_rc)), (a_r, (oc4 a_tk a_rh a_rs a_rc k_ln k_pa (k_at + 1) e_fp)), (a_tk, (oc8 a_kd a_nm a_pl)), (a_kd, (arI G 401 f_kd))] hP hD (fun hP hD => ?_)
                                  refine lv_aload_n hx hb dX4_readSum_136 rfl (lv_at hl 4 rfl) ?_
                                  refine lv_iload_n hx hb dX4_readSum_137 rfl (lv_at hl 5 rfl) ?_
                                  obtain ⟨hPc, hDc, hFc⟩ := g5_sub3 (wc := [(a_r, (oc4 a_tk a_rh a_rs a_rc k_ln k_pa (k_at + 1) e_fp)), (a_tk, (oc8 a_kd a_nm a_pl)), (a_kd, (arI G 401 f_kd)), (a_nm, (arI G 401 f_nm)), (a_rc, (arI G 400 k_rc))]) hP hD hS hA [2, 3, 4, 0, 1] (by decide) rfl
                                  refine va_calli (va_runV (As := [.int p_d]) (rest := []) ⟨hx, hb, hml, hown, hts⟩ ((r_part fr lo p_d h_p_d h_sum) l G a_r a_tk a_kd a_nm a_rc a_rh a_rs a_pl H.size k_ln k_pa (k_at + 1) e_fp f_kd f_nm k_rc i_16 i_17 ⟨by omega, by omega⟩ (e_tk) (i_20)) (cwV 1 hts gV_X4_90 rfl rfl rfl hv_X4_readPart ⟨by simp only [headSpec]; omega, by simp only [headSpec]; omega⟩) (g5_preV hPc hK hDc hN hT hS hFc (ci := 4) (q0 := 0) rfl rfl) rfl rfl hl.1 rfl (lv_room (Nat.le_of_ble_eq_true rfl)) dX4_readSum_138 ⟨Nat.le_of_ble_eq_true rfl, Nat.le_of_ble_eq_true rfl⟩) hS (fun q _ h => hFc q h) hFc (fun r u t H1 locs ht hvm hw hB hz1 hk1 hS => ?_)
                                  obtain ⟨hP1, hD1⟩ := hB
                                  rw [ht] at hP1
                                  obtain ⟨z229, z230, z231, z232, z233, i_223, i_224, i_225, i_226, i_227, i_228, y234, rfl⟩ := hw
                                  have i_223 : 0 ≤ z229.toInt ∧ z229.toInt ≤ 1 := i_223
                                  have i_224 : k_ln.toInt ≤ z230.toInt ∧ z230.toInt ≤ 400 := i_224
                                  have i_225 : 0 ≤ z232.toInt ∧ z232.toInt ≤ 401 := i_225
                                  have i_226 : 0 ≤ z231.toInt ∧ z231.toInt ≤ 50 := i_226
                                  have i_227 : CDI z233 z230.toInt := i_227
                                  have i_228 : OPK k_rc z233 k_ln.toInt := i_228
                                  obtain ⟨hP, hD⟩ := va_join (wr := []) hP hD [2, 3, 4, 0, 1] [] rfl rfl (by decide) (by decide) hk1 hFc hP1 hD1
                                  generalize H1 = H at hP hS ⊢
                                  refine g5_rs [(a_r, (oc4 a_tk a_rh a_rs a_rc z230 z231 z232 e_fp)), (a_tk, (oc8 a_kd a_nm a_pl)), (a_kd, (arI G 401 f_kd)), (a_nm, (arI G 401 f_nm)), (a_rc, (arI G 400 z233))] hP hD (fun hP hD => ?_)
                                  refine g5_ti (v := z229) y234 ?_
                                  refine lv_if_ne (tgt := 146) hx hb dX4_readSum_141 (by decide) (fun c_235 => ?_) (fun c_235 => ?_)
                                  ·
                                    have n_235 : gNe (z229.toInt) (0) := by have z := g5_ne (a := z229.toInt) (b := 0) (by rfl) (by decide) c_235; unfold gNe; omega
                                    have i_235 : z229.toInt ≥ 1 := by have z := g5_ne (a := z229.toInt) (b := 0) (by rfl) (by decide) c_235; omega
                                    refine lv_iload hx hb dX4_readSum_146 (lv_at hl 0 rfl) ?_
                                    refine lv_if_eq (tgt := 157) hx hb dX4_readSum_148 (by decide) (fun c_236 => ?_) (fun c_236 => ?_)
                                    ·
                                      refine lv_aload_n hx hb dX4_readSum_157 rfl (lv_at hl 4 rfl) ?_
                                      refine lv_iload hx hb dX4_readSum_158 (lv_at hl 1 rfl) ?_
                                      refine lv_iconst (v := 0) hx hb dX4_readSum_160 (by decide) ?_
                                      obtain ⟨hPc, hDc, hFc⟩ := g5_sub3 (wc := [(a_r, (oc4 a_tk a_rh a_rs a_rc z230 z231 z232 e_fp)), (a_rc, (arI G 400 z233))]) hP hD hS hA [0, 4] (by decide) rfl
                                      refine va_calli (va_runV (As := [.int 5, .int 0]) (rest := []) ⟨hx, hb, hml, hown, hts⟩ (r_emit l G a_r a_rc a_tk a_rh a_rs H.size z230 z231 z232 e_fp 5 0 z233 ⟨by omega, by omega⟩ i_226 i_225 (i_227) (by unfold wOK; decide)) (cwV 2 hts gV_X4_79 rfl rfl rfl hv_X4_emit ⟨by simp only [headSpec]; omega, by simp only [headSpec]; omega⟩) (g5_preV hPc hK hDc hN hT hS hFc (ci := 4) (q0 := 0) rfl rfl) rfl rfl hl.1 rfl (lv_room (Nat.le_of_ble_eq_true rfl)) dX4_readSum_161 ⟨Nat.le_of_ble_eq_true rfl, Nat.le_of_ble_eq_true rfl⟩) hS (fun q _ h => hFc q h) hFc (fun r u t H1 locs ht hvm hw hB hz1 hk1 hS => ?_)
                                      obtain ⟨hP1, hD1⟩ := hB
                                      rw [ht] at hP1
                                      obtain ⟨z242, z243, z244, i_237, i_238, i_239, i_240, i_241, y245, rfl⟩ := hw
                                      have i_237 : -1 ≤ z242.toInt ∧ z242.toInt ≤ 399 := i_237
                                      have i_238 : z230.toInt ≤ z243.toInt ∧ z243.toInt ≤ 400 := i_238
                                      have i_239 : CDI z244 z243.toInt := i_239
                                      have i_240 : OPK z233 z244 z230.toInt := i_240
                                      have i_241 : 0 ≤ z242.toInt → z242.toInt < z243.toInt ∧ z244 z242.toNatClampNeg = (((5 : Int32) <<< (12 &&& 31)) ||| (0 : Int32)) := i_241
                                      obtain ⟨hP, hD⟩ := va_join (wr := [(a_tk, (oc8 a_kd a_nm a_pl)), (a_kd, (arI G 401 f_kd)), (a_nm, (arI G 401 f_nm))]) hP hD [0, 4] [1, 2, 3] rfl rfl (by decide) (by decide) hk1 hFc hP1 hD1
                                      generalize H1 = H at hP hS ⊢
                                      refine g5_rs [(a_tk, (oc8 a_kd a_nm a_pl)), (a_kd, (arI G 401 f_kd)), (a_nm, (arI G 401 f_nm)), (a_r, (oc4 a_tk a_rh a_rs a_rc z243 z231 z232 e_fp)), (a_rc, (arI G 400 z244))] hP hD (fun hP hD => ?_)
                                      refine g5_ti (v := z242) y245 ?_
                                      refine lv_pop hx hb dX4_readSum_164 rfl ?_
                                      refine lv_iinc (v := (k_i + 1)) (lv' := [(3, .int (k_i + 1)), (5, .int 0), (4, .int 5), (2, .int k_w), (0, .ref a_r), (1, .int p_d)]) hx hb dX4_readSum_165 hl (k := 3) rfl rfl (by decide) rfl (fun ls hl => ?_)
                                      have t_246 : (k_i + 1).toInt = k_i.toInt + 1 := g5_iadd (a := k_i.toInt) (b := 1) rfl (by decide) (by omega) (by omega)
                                      refine lv_goto (tgt := 14) hx hb dX4_readSum_168 (by decide) ?_
                                      exact ih_14_23 (k_w, (k_i + 1), z243, z231, z232, z244) ls H locs (show Int.toNat (400 - (k_i + 1).toInt) < Int.toNat (400 - k_i.toInt) from g_up (show k_i.toInt < (k_i + 1).toInt by omega) (show k_i.toInt < 400 by omega)) ⟨lv_sub hl [3, 0, 4, 5] rfl, hP.sub [3, 0, 1, 2, 4] rfl, hD.sub [3, 0, 1, 2, 4] (by decide) rfl, hS, i_14, ⟨by omega, by omega⟩, ⟨by omega, by omega⟩, i_226, i_225, by omega, i_239, opk_trans i_21 (opk_trans i_228 (i_240) (by omega)) (by omega), i_22⟩
                                    ·
                                      exact absurd c_236 (by decide)
                                  ·
                                    have i_235 : z229.toInt = 0 := by have z := g5_neN (a := z229.toInt) (b := 0) (by rfl) (by decide) c_235; omega
                                    refine lv_iconst (v := 0) hx hb dX4_readSum_144 (by decide) ?_
                                    exact W.zret (v := 0) hx hb hr rfl (fun t ht hW => ⟨⟨0, [(a_r, (oc4 a_tk a_rh a_rs a_rc z230 z231 z232 e_fp)), (a_tk, (oc8 a_kd a_nm a_pl)), (a_kd, (arI G 401 f_kd)), (a_nm, (arI G 401 f_nm)), (a_rc, (arI G 400 z233))], rfl, ⟨0, z230, z231, z232, z233, ⟨by have zc_o_r : (0 : Int32).toInt = 0 := (by decide); omega, by have zc_o_r : (0 : Int32).toInt = 0 := (by decide); omega⟩, ⟨by omega, by omega⟩, i_225, i_226, i_227, opk_trans i_21 (i_228) (by omega), rfl, rfl⟩, by rw [ht]; exact hP.sub [0, 1, 2, 3, 4] rfl, hD.sub [0, 1, 2, 3, 4] (by decide) rfl⟩, hS.F ht⟩) hS.2.2 dX4_readSum_145
                                ·
                                  exact absurd c_221 (by decide)
                              ·
                                exact absurd c_220 (by decide)
                        ·
                          exact absurd c_191 (by decide)
                  ·
                    obtain ⟨hP, hD⟩ := va_join (wr := [(a_nm, (arI G 401 f_nm)), (a_rc, (arI G 400 k_rc))]) hP hD [2, 3, 4] [0, 1] rfl rfl (by decide) (by decide) hk1 hFc hP1 hD1
                    generalize H1 = H at hP hS ⊢
                    refine g5_rs [(a_nm, (arI G 401 f_nm)), (a_rc, (arI G 400 k_rc)), (a_r, (oc4 a_tk a_rh a_rs a_rc k_ln k_pa k_at e_fp)), (a_tk, (oc8 a_kd a_nm a_pl)), (a_kd, (arI G 401 f_kd))] hP hD (fun hP hD => ?_)
                    refine lv_if_eq (tgt := 73) hx hb dX4_readSum_66 (by decide) (fun c_247 => ?_) (fun c_247 => ?_)
                    ·
                      refine lv_iconst (v := (-1)) hx hb dX4_readSum_73 (by decide) ?_
                      refine lv_istore (lv' := [(4, .int (-1)), (2, .int k_w), (3, .int k_i), (0, .ref a_r), (1, .int p_d)]) hx hb dX4_readSum_74 hl (by decide) rfl (fun ls hl => ?_)
                      refine lv_iload hx hb dX4_readSum_76 (lv_at hl 0 rfl) ?_
                      refine lv_iconst (v := 2) hx hb dX4_readSum_78 (by decide) ?_
                      refine lv_icmp_eq (tgt := 88) hx hb dX4_readSum_79 (by decide) (fun c_248 => ?_) (fun c_248 => ?_)
                      ·
                        exact absurd c_248 (by decide)
                      ·
                        refine lv_iload hx hb dX4_readSum_82 (lv_at hl 0 rfl) ?_
                        refine lv_iconst (v := 3) hx hb dX4_readSum_84 (by decide) ?_
                        refine lv_icmp_ne (tgt := 92) hx hb dX4_readSum_85 (by decide) (fun c_249 => ?_) (fun c_249 => ?_)
                        ·
                          refine lv_iconst (v := 0) hx hb dX4_readSum_92 (by decide) ?_
                          refine lv_istore (lv' := [(5, .int 0), (4, .int (-1)), (2, .int k_w), (3, .int k_i), (0, .ref a_r), (1, .int p_d)]) hx hb dX4_readSum_93 hl (by decide) rfl (fun ls hl => ?_)
                          refine lv_iload_n hx hb dX4_readSum_95 rfl (lv_at hl 2 rfl) ?_
                          refine lv_iconst (v := (-1)) hx hb dX4_readSum_96 (by decide) ?_
                          refine lv_icmp_eq (tgt := 118) hx hb dX4_readSum_97 (by decide) (fun c_250 => ?_) (fun c_250 => ?_)
                          ·
                            have i_250 : k_w.toInt = (-1) := by have z := g5_eq (a := k_w.toInt) (b := (-1)) (by rfl) (by decide) c_250; omega
                            refine lv_iload hx hb dX4_readSum_118 (lv_at hl 1 rfl) ?_
                            refine lv_iconst (v := (-1)) hx hb dX4_readSum_120 (by decide) ?_
                            refine lv_icmp_ne (tgt := 126) hx hb dX4_readSum_121 (by decide) (fun c_251 => ?_) (fun c_251 => ?_)
                            ·
                              exact absurd c_251 (by decide)
                            ·
                              refine lv_iconst (v := 1) hx hb dX4_readSum_124 (by decide) ?_
                              exact W.zret (v := 1) hx hb hr rfl (fun t ht hW => ⟨⟨1, [(a_r, (oc4 a_tk a_rh a_rs a_rc k_ln k_pa k_at e_fp)), (a_tk, (oc8 a_kd a_nm a_pl)), (a_kd, (arI G 401 f_kd)), (a_nm, (arI G 401 f_nm)), (a_rc, (arI G 400 k_rc))], rfl, ⟨1, k_ln, k_pa, k_at, k_rc, ⟨by have zc_o_r : (1 : Int32).toInt = 1 := (by decide); omega, by have zc_o_r : (1 : Int32).toInt = 1 := (by decide); omega⟩, ⟨by omega, by omega⟩, i_18, i_17, i_20, i_21, rfl, rfl⟩, by rw [ht]; exact hP.sub [2, 3, 4, 0, 1] rfl, hD.sub [2, 3, 4, 0, 1] (by decide) rfl⟩, hS.F ht⟩) hS.2.2 dX4_readSum_125
                          ·
                            have n_250 : gNe (k_w.toInt) ((-1)) := by have z := g5_eqN (a := k_w.toInt) (b := (-1)) (by rfl) (by decide) c_250; unfold gNe; omega
                            have i_250 : k_w.toInt ≥ 0 := by have z := g5_eqN (a := k_w.toInt) (b := (-1)) (by rfl) (by decide) c_250; omega
                            refine lv_iload hx hb dX4_readSum_100 (lv_at hl 0 rfl) ?_
                            refine lv_if_ne (tgt := 111) hx hb dX4_readSum_102 (by decide) (fun c_252 => ?_) (fun c_252 => ?_)
                            ·
                              exact absurd c_252 (by decide)
                            ·
                              refine lv_iload hx hb dX4_readSum_105 (lv_at hl 1 rfl) ?_
                              refine lv_iconst (v := (-1)) hx hb dX4_readSum_107 (by decide) ?_
                              refine lv_icmp_ne (tgt := 118) hx hb dX4_readSum_108 (by decide) (fun c_253 => ?_) (fun c_253 => ?_)
                              ·
                                exact absurd c_253 (by decide)
                              ·
                                refine lv_aload_n hx hb dX4_readSum_111 rfl (lv_at hl 4 rfl) ?_
                                refine lv_iload_n hx hb dX4_readSum_112 rfl (lv_at hl 2 rfl) ?_
                                refine lv_iconst (v := 0) hx hb dX4_readSum_113 (by decide) ?_
                                obtain ⟨hPc, hDc, hFc⟩ := g5_sub3 (wc := [(a_r, (oc4 a_tk a_rh a_rs a_rc k_ln k_pa k_at e_fp)), (a_rc, (arI G 400 k_rc))]) hP hD hS hA [2, 1] (by decide) rfl
                                refine va_calli (va_runV (As := [.int k_w, .int 0]) (rest := []) ⟨hx, hb, hml, hown, hts⟩ (r_emit l G a_r a_rc a_tk a_rh a_rs H.size k_ln k_pa k_at e_fp k_w 0 k_rc i_16 i_17 i_18 (i_20) (wok_wait (by rcases i_22 with q | q | q; exact absurd q n_250; exact Or.inl q; exact Or.inr q))) (cwV 2 hts gV_X4_79 rfl rfl rfl hv_X4_emit ⟨by simp only [headSpec]; omega, by simp only [headSpec]; omega⟩) (g5_preV hPc hK hDc hN hT hS hFc (ci := 4) (q0 := 0) rfl rfl) rfl rfl hl.1 rfl (lv_room (Nat.le_of_ble_eq_true rfl)) dX4_readSum_114 ⟨Nat.le_of_ble_eq_true rfl, Nat.le_of_ble_eq_true rfl⟩) hS (fun q _ h => hFc q h) hFc (fun r u t H1 locs ht hvm hw hB hz1 hk1 hS => ?_)
                                obtain ⟨hP1, hD1⟩ := hB
                                rw [ht] at hP1
                                obtain ⟨z259, z260, z261, i_254, i_255, i_256, i_257, i_258, y262, rfl⟩ := hw
                                have i_254 : -1 ≤ z259.toInt ∧ z259.toInt ≤ 399 := i_254
                                have i_255 : k_ln.toInt ≤ z260.toInt ∧ z260.toInt ≤ 400 := i_255
                                have i_256 : CDI z261 z260.toInt := i_256
                                have i_257 : OPK k_rc z261 k_ln.toInt := i_257
                                have i_258 : 0 ≤ z259.toInt → z259.toInt < z260.toInt ∧ z261 z259.toNatClampNeg = ((k_w <<< (12 &&& 31)) ||| (0 : Int32)) := i_258
                                obtain ⟨hP, hD⟩ := va_join (wr := [(a_nm, (arI G 401 f_nm)), (a_tk, (oc8 a_kd a_nm a_pl)), (a_kd, (arI G 401 f_kd))]) hP hD [2, 1] [0, 3, 4] rfl rfl (by decide) (by decide) hk1 hFc hP1 hD1
                                generalize H1 = H at hP hS ⊢
                                refine g5_rs [(a_nm, (arI G 401 f_nm)), (a_tk, (oc8 a_kd a_nm a_pl)), (a_kd, (arI G 401 f_kd)), (a_r, (oc4 a_tk a_rh a_rs a_rc z260 k_pa k_at e_fp)), (a_rc, (arI G 400 z261))] hP hD (fun hP hD => ?_)
                                refine g5_ti (v := z259) y262 ?_
                                refine lv_pop hx hb dX4_readSum_117 rfl ?_
                                refine lv_iload hx hb dX4_readSum_118 (lv_at hl 1 rfl) ?_
                                refine lv_iconst (v := (-1)) hx hb dX4_readSum_120 (by decide) ?_
                                refine lv_icmp_ne (tgt := 126) hx hb dX4_readSum_121 (by decide) (fun c_263 => ?_) (fun c_263 => ?_)
                                ·
                                  exact absurd c_263 (by decide)
                                ·
                                  refine lv_iconst (v := 1) hx hb dX4_readSum_124 (by decide) ?_
                                  exact W.zret (v := 1) hx hb hr rfl (fun t ht hW => ⟨⟨1, [(a_r, (oc4 a_tk a_rh a_rs a_rc z260 k_pa k_at e_fp)), (a_tk, (oc8 a_kd a_nm a_pl)), (a_kd, (arI G 401 f_kd)), (a_nm, (arI G 401 f_nm)), (a_rc, (arI G 400 z261))], rfl, ⟨1, z260, k_pa, k_at, z261, ⟨by have zc_o_r : (1 : Int32).toInt = 1 := (by decide); omega, by have zc_o_r : (1 : Int32).toInt = 1 := (by decide); omega⟩, ⟨by omega, by omega⟩, i_18, i_17, i_256, opk_trans i_21 (i_257) (by omega), rfl, rfl⟩, by rw [ht]; exact hP.sub [3, 1, 2, 0, 4] rfl, hD.sub [3, 1, 2, 0, 4] (by decide) rfl⟩, hS.F ht⟩) hS.2.2 dX4_readSum_125
                        ·
                          exact absurd c_249 (by decide)
                    ·
                      exact absurd c_247 (by decide)
                ·
                  exact absurd c_186 (by decide)
            ·
              exact absurd c_125 (by decide)
        ·
          exact absurd c_74 (by decide)
  ·
    have i_13 : z7.toInt = 0 := by have z := g5_neN (a := z7.toInt) (b := 0) (by rfl) (by decide) c_13; omega
    refine lv_iconst (v := 0) hx hb dX4_readSum_8 (by decide) ?_
    exact W.zret (v := 0) hx hb hr rfl (fun t ht hW => ⟨⟨0, [(a_r, (oc4 a_tk a_rh a_rs a_rc z8 z9 z10 e_fp)), (a_tk, (oc8 a_kd a_nm a_pl)), (a_kd, (arI G 401 f_kd)), (a_nm, (arI G 401 f_nm)), (a_rc, (arI G 400 z11))], rfl, ⟨0, z8, z9, z10, z11, ⟨by have zc_o_r : (0 : Int32).toInt = 0 := (by decide); omega, by have zc_o_r : (0 : Int32).toInt = 0 := (by decide); omega⟩, ⟨by omega, by omega⟩, i_3, i_4, i_5, i_6, rfl, rfl⟩, by rw [ht]; exact hP.sub [0, 1, 2, 3, 4] rfl, hD.sub [0, 1, 2, 3, 4] (by decide) rfl⟩, hS.F ht⟩) hS.2.2 dX4_readSum_9
theorem dgX4_readPlain_0 : ∀ r ∈ ([(0, (.iconst 0, 1)), (1, (.istore_n 2, 1)), (2, (.iconst 0, 1)), (3, (.istore_n 3, 1)), (4, (.iload_n 3, 1)), (5, (.sipush 400, 3)), (8, (.if_icmp .ge 29, 3)), (11, (.aload_n 0, 1)), (12, (.sipush 263, 3)), (15, (.invokevirtual 63, 3)), (18, (.ifCond .eq 19, 3)), (21, (.iload_n 2, 1)), (22, (.ifCond .ne 7, 3)), (25, (.iconst 1, 1)), (26, (.goto 4, 3)), (29, (.iconst 0, 1)), (30, (.istore_n 2, 1)), (31, (.iinc 3 1, 3)), (34, (.goto (-30), 3)), (37, (.aload_n 0, 1)), (38, (.bipush 40, 2)), (40, (.invokevirtual 49, 3)), (43, (.ifCond .eq 39, 3)), (46, (.iload_n 1, 1)), (47, (.bipush 8, 2)), (49, (.if_icmp .ge 31, 3)), (52, (.aload_n 0, 1)), (53, (.bipush 40, 2)), (55, (.invokevirtual 63, 3)), (58, (.ifCond .eq 22, 3)), (61, (.aload_n 0, 1)), (62, (.iload_n 1, 1)), (63, (.iconst 1, 1)), (64, (.iadd, 1)), (65, (.invokevirtual 76, 3)), (68, (.ifCond .eq 12, 3)), (71, (.aload_n 0, 1)), (72, (.bipush 41, 2)), (74, (.invokevirtual 63, 3)), (77, (.ifCond .ne 93, 3))] : List (Nat × (Instr × Nat))), decode cX4_readPlain r.1 = .ok r.2 := by decide +kernel
theorem dX4_readPlain_0 : decode cX4_readPlain 0 = .ok (.iconst 0, 1) := dgX4_readPlain_0 (0, (.iconst 0, 1)) (List.mem_of_getElem? (i := 0) rfl)
theorem dX4_readPlain_1 : decode cX4_readPlain 1 = .ok (.istore_n 2, 1) := dgX4_readPlain_0 (1, (.istore_n 2, 1)) (List.mem_of_getElem? (i := 1) rfl)
theorem dX4_readPlain_2 : decode cX4_readPlain 2 = .ok (.iconst 0, 1) := dgX4_readPlain_0 (2, (.iconst 0, 1)) (List.mem_of_getElem? (i := 2) rfl)
theorem dX4_readPlain_3 : decode cX4_readPlain 3 = .ok (.istore_n 3, 1) := dgX4_readPlain_0 (3, (.istore_n 3, 1)) (List.mem_of_getElem? (i := 3) rfl)
theorem dX4_readPlain_4 : decode cX4_readPlain 4 = .ok (.iload_n 3, 1) := dgX4_readPlain_0 (4, (.iload_n 3, 1)) (List.mem_of_getElem? (i := 4) rfl)
theorem dX4_readPlain_5 : decode cX4_readPlain 5 = .ok (.sipush 400, 3) := dgX4_readPlain_0 (5, (.sipush 400, 3)) (List.mem_of_getElem? (i := 5) rfl)
theorem dX4_readPlain_8 : decode cX4_readPlain 8 = .ok (.if_icmp .ge 29, 3) := dgX4_readPlain_0 (8, (.if_icmp .ge 29, 3)) (List.mem_of_getElem? (i := 6) rfl)
theorem dX4_readPlain_11 : decode cX4_readPlain 11 = .ok (.aload_n 0, 1) := dgX4_readPlain_0 (11, (.aload_n 0, 1)) (List.mem_of_getElem? (i := 7) rfl)
theorem dX4_readPlain_12 : decode cX4_readPlain 12 = .ok (.sipush 263, 3) := dgX4_readPlain_0 (12, (.sipush 263, 3)) (List.mem_of_getElem? (i := 8) rfl)
theorem dX4_readPlain_15 : decode cX4_readPlain 15 = .ok (.invokevirtual 63, 3) := dgX4_readPlain_0 (15, (.invokevirtual 63, 3)) (List.mem_of_getElem? (i := 9) rfl)
theorem dX4_readPlain_18 : decode cX4_readPlain 18 = .ok (.ifCond .eq 19, 3) := dgX4_readPlain_0 (18, (.ifCond .eq 19, 3)) (List.mem_of_getElem? (i := 10) rfl)
theorem dX4_readPlain_21 : decode cX4_readPlain 21 = .ok (.iload_n 2, 1) := dgX4_readPlain_0 (21, (.iload_n 2, 1)) (List.mem_of_getElem? (i := 11) rfl)
theorem dX4_readPlain_22 : decode cX4_readPlain 22 = .ok (.ifCond .ne 7, 3) := dgX4_readPlain_0 (22, (.ifCond .ne 7, 3)) (List.mem_of_getElem? (i := 12) rfl)
theorem dX4_readPlain_25 : decode cX4_readPlain 25 = .ok (.iconst 1, 1) := dgX4_readPlain_0 (25, (.iconst 1, 1)) (List.mem_of_getElem? (i := 13) rfl)
theorem dX4_readPlain_26 : decode cX4_readPlain 26 = .ok (.goto 4, 3) := dgX4_readPlain_0 (26, (.goto 4, 3)) (List.mem_of_getElem? (i := 14) rfl)
theorem dX4_readPlain_29 : decode cX4_readPlain 29 = .ok (.iconst 0, 1) := dgX4_readPlain_0 (29, (.iconst 0, 1)) (List.mem_of_getElem? (i := 15) rfl)
theorem dX4_readPlain_30 : decode cX4_readPlain 30 = .ok (.istore_n 2, 1) := dgX4_readPlain_0 (30, (.istore_n 2, 1)) (List.mem_of_getElem? (i := 16) rfl)
theorem dX4_readPlain_31 : decode cX4_readPlain 31 = .ok (.iinc 3 1, 3) := dgX4_readPlain_0 (31, (.iinc 3 1, 3)) (List.mem_of_getElem? (i := 17) rfl)
theorem dX4_readPlain_34 : decode cX4_readPlain 34 = .ok (.goto (-30), 3) := dgX4_readPlain_0 (34, (.goto (-30), 3)) (List.mem_of_getElem? (i := 18) rfl)
theorem dX4_readPlain_37 : decode cX4_readPlain 37 = .ok (.aload_n 0, 1) := dgX4_readPlain_0 (37, (.aload_n 0, 1)) (List.mem_of_getElem? (i := 19) rfl)
theorem dX4_readPlain_38 : decode cX4_readPlain 38 = .ok (.bipush 40, 2) := dgX4_readPlain_0 (38, (.bipush 40, 2)) (List.mem_of_getElem? (i := 20) rfl)
theorem dX4_readPlain_40 : decode cX4_readPlain 40 = .ok (.invokevirtual 49, 3) := dgX4_readPlain_0 (40, (.invokevirtual 49, 3)) (List.mem_of_getElem? (i := 21) rfl)
theorem dX4_readPlain_43 : decode cX4_readPlain 43 = .ok (.ifCond .eq 39, 3) := dgX4_readPlain_0 (43, (.ifCond .eq 39, 3)) (List.mem_of_getElem? (i := 22) rfl)
theorem dX4_readPlain_46 : decode cX4_readPlain 46 = .ok (.iload_n 1, 1) := dgX4_readPlain_0 (46, (.iload_n 1, 1)) (List.mem_of_getElem? (i := 23) rfl)
theorem dX4_readPlain_47 : decode cX4_readPlain 47 = .ok (.bipush 8, 2) := dgX4_readPlain_0 (47, (.bipush 8, 2)) (List.mem_of_getElem? (i := 24) rfl)
theorem dX4_readPlain_49 : decode cX4_readPlain 49 = .ok (.if_icmp .ge 31, 3) := dgX4_readPlain_0 (49, (.if_icmp .ge 31, 3)) (List.mem_of_getElem? (i := 25) rfl)
theorem dX4_readPlain_52 : decode cX4_readPlain 52 = .ok (.aload_n 0, 1) := dgX4_readPlain_0 (52, (.aload_n 0, 1)) (List.mem_of_getElem? (i := 26) rfl)
theorem dX4_readPlain_53 : decode cX4_readPlain 53 = .ok (.bipush 40, 2) := dgX4_readPlain_0 (53, (.bipush 40, 2)) (List.mem_of_getElem? (i := 27) rfl)
theorem dX4_readPlain_55 : decode cX4_readPlain 55 = .ok (.invokevirtual 63, 3) := dgX4_readPlain_0 (55, (.invokevirtual 63, 3)) (List.mem_of_getElem? (i := 28) rfl)
theorem dX4_readPlain_58 : decode cX4_readPlain 58 = .ok (.ifCond .eq 22, 3) := dgX4_readPlain_0 (58, (.ifCond .eq 22, 3)) (List.mem_of_getElem? (i := 29) rfl)
theorem dX4_readPlain_61 : decode cX4_readPlain 61 = .ok (.aload_n 0, 1) := dgX4_readPlain_0 (61, (.aload_n 0, 1)) (List.mem_of_getElem? (i := 30) rfl)
theorem dX4_readPlain_62 : decode cX4_readPlain 62 = .ok (.iload_n 1, 1) := dgX4_readPlain_0 (62, (.iload_n 1, 1)) (List.mem_of_getElem? (i := 31) rfl)
theorem dX4_readPlain_63 : decode cX4_readPlain 63 = .ok (.iconst 1, 1) := dgX4_readPlain_0 (63, (.iconst 1, 1)) (List.mem_of_getElem? (i := 32) rfl)
theorem dX4_readPlain_64 : decode cX4_readPlain 64 = .ok (.iadd, 1) := dgX4_readPlain_0 (64, (.iadd, 1)) (List.mem_of_getElem? (i := 33) rfl)
theorem dX4_readPlain_65 : decode cX4_readPlain 65 = .ok (.invokevirtual 76, 3) := dgX4_readPlain_0 (65, (.invokevirtual 76, 3)) (List.mem_of_getElem? (i := 34) rfl)
theorem dX4_readPlain_68 : decode cX4_readPlain 68 = .ok (.ifCond .eq 12, 3) := dgX4_readPlain_0 (68, (.ifCond .eq 12, 3)) (List.mem_of_getElem? (i := 35) rfl)
theorem dX4_readPlain_71 : decode cX4_readPlain 71 = .ok (.aload_n 0, 1) := dgX4_readPlain_0 (71, (.aload_n 0, 1)) (List.mem_of_getElem? (i := 36) rfl)
theorem dX4_readPlain_72 : decode cX4_readPlain 72 = .ok (.bipush 41, 2) := dgX4_readPlain_0 (72, (.bipush 41, 2)) (List.mem_of_getElem? (i := 37) rfl)
theorem dX4_readPlain_74 : decode cX4_readPlain 74 = .ok (.invokevirtual 63, 3) := dgX4_readPlain_0 (74, (.invokevirtual 63, 3)) (List.mem_of_getElem? (i := 38) rfl)
theorem dX4_readPlain_77 : decode cX4_readPlain 77 = .ok (.ifCond .ne 93, 3) := dgX4_readPlain_0 (77, (.ifCond .ne 93, 3)) (List.mem_of_getElem? (i := 39) rfl)
theorem dgX4_readPlain_1 : ∀ r ∈ ([(80, (.iconst 0, 1)), (81, (.ireturn, 1)), (82, (.aload_n 0, 1)), (83, (.iload_n 1, 1)), (84, (.invokevirtual 73, 3)), (87, (.ifCond .ne 5, 3)), (90, (.iconst 0, 1)), (91, (.ireturn, 1)), (92, (.aload_n 0, 1)), (93, (.bipush 60, 2)), (95, (.invokevirtual 49, 3)), (98, (.ifCond .eq 8, 3)), (101, (.bipush 6, 2)), (103, (.goto 32, 3)), (106, (.aload_n 0, 1)), (107, (.bipush 62, 2)), (109, (.invokevirtual 49, 3)), (112, (.ifCond .eq 8, 3)), (115, (.bipush 7, 2)), (117, (.goto 18, 3)), (120, (.aload_n 0, 1)), (121, (.bipush 61, 2)), (123, (.invokevirtual 49, 3)), (126, (.ifCond .eq 8, 3)), (129, (.bipush 8, 2)), (131, (.goto 4, 3)), (134, (.iconst (-1), 1)), (135, (.istore_n 3, 1)), (136, (.iload_n 3, 1)), (137, (.iconst (-1), 1)), (138, (.if_icmp .ne 5, 3)), (141, (.iconst 0, 1)), (142, (.ireturn, 1)), (143, (.aload_n 0, 1)), (144, (.dup, 1)), (145, (.getfield 42, 3)), (148, (.iconst 1, 1)), (149, (.iadd, 1)), (150, (.putfield 42, 3)), (153, (.aload_n 0, 1))] : List (Nat × (Instr × Nat))), decode cX4_readPlain r.1 = .ok r.2 := by decide +kernel
theorem dX4_readPlain_80 : decode cX4_readPlain 80 = .ok (.iconst 0, 1) := dgX4_readPlain_1 (80, (.iconst 0, 1)) (List.mem_of_getElem? (i := 0) rfl)
theorem dX4_readPlain_81 : decode cX4_readPlain 81 = .ok (.ireturn, 1) := dgX4_readPlain_1 (81, (.ireturn, 1)) (List.mem_of_getElem? (i := 1) rfl)
theorem dX4_readPlain_82 : decode cX4_readPlain 82 = .ok (.aload_n 0, 1) := dgX4_readPlain_1 (82, (.aload_n 0, 1)) (List.mem_of_getElem? (i := 2) rfl)
theorem dX4_readPlain_83 : decode cX4_readPlain 83 = .ok (.iload_n 1, 1) := dgX4_readPlain_1 (83, (.iload_n 1, 1)) (List.mem_of_getElem? (i := 3) rfl)
theorem dX4_readPlain_84 : decode cX4_readPlain 84 = .ok (.invokevirtual 73, 3) := dgX4_readPlain_1 (84, (.invokevirtual 73, 3)) (List.mem_of_getElem? (i := 4) rfl)
theorem dX4_readPlain_87 : decode cX4_readPlain 87 = .ok (.ifCond .ne 5, 3) := dgX4_readPlain_1 (87, (.ifCond .ne 5, 3)) (List.mem_of_getElem? (i := 5) rfl)
theorem dX4_readPlain_90 : decode cX4_readPlain 90 = .ok (.iconst 0, 1) := dgX4_readPlain_1 (90, (.iconst 0, 1)) (List.mem_of_getElem? (i := 6) rfl)
theorem dX4_readPlain_91 : decode cX4_readPlain 91 = .ok (.ireturn, 1) := dgX4_readPlain_1 (91, (.ireturn, 1)) (List.mem_of_getElem? (i := 7) rfl)
theorem dX4_readPlain_92 : decode cX4_readPlain 92 = .ok (.aload_n 0, 1) := dgX4_readPlain_1 (92, (.aload_n 0, 1)) (List.mem_of_getElem? (i := 8) rfl)
theorem dX4_readPlain_93 : decode cX4_readPlain 93 = .ok (.bipush 60, 2) := dgX4_readPlain_1 (93, (.bipush 60, 2)) (List.mem_of_getElem? (i := 9) rfl)
theorem dX4_readPlain_95 : decode cX4_readPlain 95 = .ok (.invokevirtual 49, 3) := dgX4_readPlain_1 (95, (.invokevirtual 49, 3)) (List.mem_of_getElem? (i := 10) rfl)
theorem dX4_readPlain_98 : decode cX4_readPlain 98 = .ok (.ifCond .eq 8, 3) := dgX4_readPlain_1 (98, (.ifCond .eq 8, 3)) (List.mem_of_getElem? (i := 11) rfl)
theorem dX4_readPlain_101 : decode cX4_readPlain 101 = .ok (.bipush 6, 2) := dgX4_readPlain_1 (101, (.bipush 6, 2)) (List.mem_of_getElem? (i := 12) rfl)
theorem dX4_readPlain_103 : decode cX4_readPlain 103 = .ok (.goto 32, 3) := dgX4_readPlain_1 (103, (.goto 32, 3)) (List.mem_of_getElem? (i := 13) rfl)
theorem dX4_readPlain_106 : decode cX4_readPlain 106 = .ok (.aload_n 0, 1) := dgX4_readPlain_1 (106, (.aload_n 0, 1)) (List.mem_of_getElem? (i := 14) rfl)
theorem dX4_readPlain_107 : decode cX4_readPlain 107 = .ok (.bipush 62, 2) := dgX4_readPlain_1 (107, (.bipush 62, 2)) (List.mem_of_getElem? (i := 15) rfl)
theorem dX4_readPlain_109 : decode cX4_readPlain 109 = .ok (.invokevirtual 49, 3) := dgX4_readPlain_1 (109, (.invokevirtual 49, 3)) (List.mem_of_getElem? (i := 16) rfl)
theorem dX4_readPlain_112 : decode cX4_readPlain 112 = .ok (.ifCond .eq 8, 3) := dgX4_readPlain_1 (112, (.ifCond .eq 8, 3)) (List.mem_of_getElem? (i := 17) rfl)
theorem dX4_readPlain_115 : decode cX4_readPlain 115 = .ok (.bipush 7, 2) := dgX4_readPlain_1 (115, (.bipush 7, 2)) (List.mem_of_getElem? (i := 18) rfl)
theorem dX4_readPlain_117 : decode cX4_readPlain 117 = .ok (.goto 18, 3) := dgX4_readPlain_1 (117, (.goto 18, 3)) (List.mem_of_getElem? (i := 19) rfl)
theorem dX4_readPlain_120 : decode cX4_readPlain 120 = .ok (.aload_n 0, 1) := dgX4_readPlain_1 (120, (.aload_n 0, 1)) (List.mem_of_getElem? (i := 20) rfl)
theorem dX4_readPlain_121 : decode cX4_readPlain 121 = .ok (.bipush 61, 2) := dgX4_readPlain_1 (121, (.bipush 61, 2)) (List.mem_of_getElem? (i := 21) rfl)
theorem dX4_readPlain_123 : decode cX4_readPlain 123 = .ok (.invokevirtual 49, 3) := dgX4_readPlain_1 (123, (.invokevirtual 49, 3)) (List.mem_of_getElem? (i := 22) rfl)
theorem dX4_readPlain_126 : decode cX4_readPlain 126 = .ok (.ifCond .eq 8, 3) := dgX4_readPlain_1 (126, (.ifCond .eq 8, 3)) (List.mem_of_getElem? (i := 23) rfl)
theorem dX4_readPlain_129 : decode cX4_readPlain 129 = .ok (.bipush 8, 2) := dgX4_readPlain_1 (129, (.bipush 8, 2)) (List.mem_of_getElem? (i := 24) rfl)
theorem dX4_readPlain_131 : decode cX4_readPlain 131 = .ok (.goto 4, 3) := dgX4_readPlain_1 (131, (.goto 4, 3)) (List.mem_of_getElem? (i := 25) rfl)
theorem dX4_readPlain_134 : decode cX4_readPlain 134 = .ok (.iconst (-1), 1) := dgX4_readPlain_1 (134, (.iconst (-1), 1)) (List.mem_of_getElem? (i := 26) rfl)
theorem dX4_readPlain_135 : decode cX4_readPlain 135 = .ok (.istore_n 3, 1) := dgX4_readPlain_1 (135, (.istore_n 3, 1)) (List.mem_of_getElem? (i := 27) rfl)
theorem dX4_readPlain_136 : decode cX4_readPlain 136 = .ok (.iload_n 3, 1) := dgX4_readPlain_1 (136, (.iload_n 3, 1)) (List.mem_of_getElem? (i := 28) rfl)
theorem dX4_readPlain_137 : decode cX4_readPlain 137 = .ok (.iconst (-1), 1) := dgX4_readPlain_1 (137, (.iconst (-1), 1)) (List.mem_of_getElem? (i := 29) rfl)
theorem dX4_readPlain_138 : decode cX4_readPlain 138 = .ok (.if_icmp .ne 5, 3) := dgX4_readPlain_1 (138, (.if_icmp .ne 5, 3)) (List.mem_of_getElem? (i := 30) rfl)
theorem dX4_readPlain_141 : decode cX4_readPlain 141 = .ok (.iconst 0, 1) := dgX4_readPlain_1 (141, (.iconst 0, 1)) (List.mem_of_getElem? (i := 31) rfl)
theorem dX4_readPlain_142 : decode cX4_readPlain 142 = .ok (.ireturn, 1) := dgX4_readPlain_1 (142, (.ireturn, 1)) (List.mem_of_getElem? (i := 32) rfl)
theorem dX4_readPlain_143 : decode cX4_readPlain 143 = .ok (.aload_n 0, 1) := dgX4_readPlain_1 (143, (.aload_n 0, 1)) (List.mem_of_getElem? (i := 33) rfl)
theorem dX4_readPlain_144 : decode cX4_readPlain 144 = .ok (.dup, 1) := dgX4_readPlain_1 (144, (.dup, 1)) (List.mem_of_getElem? (i := 34) rfl)
theorem dX4_readPlain_145 : decode cX4_readPlain 145 = .ok (.getfield 42, 3) := dgX4_readPlain_1 (145, (.getfield 42, 3)) (List.mem_of_getElem? (i := 35) rfl)
theorem dX4_readPlain_148 : decode cX4_readPlain 148 = .ok (.iconst 1, 1) := dgX4_readPlain_1 (148, (.iconst 1, 1)) (List.mem_of_getElem? (i := 36) rfl)
theorem dX4_readPlain_149 : decode cX4_readPlain 149 = .ok (.iadd, 1) := dgX4_readPlain_1 (149, (.iadd, 1)) (List.mem_of_getElem? (i := 37) rfl)
theorem dX4_readPlain_150 : decode cX4_readPlain 150 = .ok (.putfield 42, 3) := dgX4_readPlain_1 (150, (.putfield 42, 3)) (List.mem_of_getElem? (i := 38) rfl)
theorem dX4_readPlain_153 : decode cX4_readPlain 153 = .ok (.aload_n 0, 1) := dgX4_readPlain_1 (153, (.aload_n 0, 1)) (List.mem_of_getElem? (i := 39) rfl)
theorem dgX4_readPlain_2 : ∀ r ∈ ([(154, (.iload_n 1, 1)), (155, (.invokevirtual 73, 3)), (158, (.ifCond .ne 5, 3)), (161, (.iconst 0, 1)), (162, (.ireturn, 1)), (163, (.aload_n 0, 1)), (164, (.iload_n 3, 1)), (165, (.iconst 0, 1)), (166, (.invokevirtual 79, 3)), (169, (.pop, 1)), (170, (.iload_n 2, 1)), (171, (.ifCond .eq 11, 3)), (174, (.aload_n 0, 1)), (175, (.bipush 9, 2)), (177, (.iconst 0, 1)), (178, (.invokevirtual 79, 3)), (181, (.pop, 1)), (182, (.iconst 1, 1)), (183, (.ireturn, 1))] : List (Nat × (Instr × Nat))), decode cX4_readPlain r.1 = .ok r.2 := by decide +kernel
theorem dX4_readPlain_154 : decode cX4_readPlain 154 = .ok (.iload_n 1, 1) := dgX4_readPlain_2 (154, (.iload_n 1, 1)) (List.mem_of_getElem? (i := 0) rfl)
theorem dX4_readPlain_155 : decode cX4_readPlain 155 = .ok (.invokevirtual 73, 3) := dgX4_readPlain_2 (155, (.invokevirtual 73, 3)) (List.mem_of_getElem? (i := 1) rfl)
theorem dX4_readPlain_158 : decode cX4_readPlain 158 = .ok (.ifCond .ne 5, 3) := dgX4_readPlain_2 (158, (.ifCond .ne 5, 3)) (List.mem_of_getElem? (i := 2) rfl)
theorem dX4_readPlain_161 : decode cX4_readPlain 161 = .ok (.iconst 0, 1) := dgX4_readPlain_2 (161, (.iconst 0, 1)) (List.mem_of_getElem? (i := 3) rfl)
theorem dX4_readPlain_162 : decode cX4_readPlain 162 = .ok (.ireturn, 1) := dgX4_readPlain_2 (162, (.ireturn, 1)) (List.mem_of_getElem? (i := 4) rfl)
theorem dX4_readPlain_163 : decode cX4_readPlain 163 = .ok (.aload_n 0, 1) := dgX4_readPlain_2 (163, (.aload_n 0, 1)) (List.mem_of_getElem? (i := 5) rfl)
theorem dX4_readPlain_164 : decode cX4_readPlain 164 = .ok (.iload_n 3, 1) := dgX4_readPlain_2 (164, (.iload_n 3, 1)) (List.mem_of_getElem? (i := 6) rfl)
theorem dX4_readPlain_165 : decode cX4_readPlain 165 = .ok (.iconst 0, 1) := dgX4_readPlain_2 (165, (.iconst 0, 1)) (List.mem_of_getElem? (i := 7) rfl)
theorem dX4_readPlain_166 : decode cX4_readPlain 166 = .ok (.invokevirtual 79, 3) := dgX4_readPlain_2 (166, (.invokevirtual 79, 3)) (List.mem_of_getElem? (i := 8) rfl)
theorem dX4_readPlain_169 : decode cX4_readPlain 169 = .ok (.pop, 1) := dgX4_readPlain_2 (169, (.pop, 1)) (List.mem_of_getElem? (i := 9) rfl)
theorem dX4_readPlain_170 : decode cX4_readPlain 170 = .ok (.iload_n 2, 1) := dgX4_readPlain_2 (170, (.iload_n 2, 1)) (List.mem_of_getElem? (i := 10) rfl)
theorem dX4_readPlain_171 : decode cX4_readPlain 171 = .ok (.ifCond .eq 11, 3) := dgX4_readPlain_2 (171, (.ifCond .eq 11, 3)) (List.mem_of_getElem? (i := 11) rfl)
theorem dX4_readPlain_174 : decode cX4_readPlain 174 = .ok (.aload_n 0, 1) := dgX4_readPlain_2 (174, (.aload_n 0, 1)) (List.mem_of_getElem? (i := 12) rfl)
theorem dX4_readPlain_175 : decode cX4_readPlain 175 = .ok (.bipush 9, 2) := dgX4_readPlain_2 (175, (.bipush 9, 2)) (List.mem_of_getElem? (i := 13) rfl)
theorem dX4_readPlain_177 : decode cX4_readPlain 177 = .ok (.iconst 0, 1) := dgX4_readPlain_2 (177, (.iconst 0, 1)) (List.mem_of_getElem? (i := 14) rfl)
theorem dX4_readPlain_178 : decode cX4_readPlain 178 = .ok (.invokevirtual 79, 3) := dgX4_readPlain_2 (178, (.invokevirtual 79, 3)) (List.mem_of_getElem? (i := 15) rfl)
theorem dX4_readPlain_181 : decode cX4_readPlain 181 = .ok (.pop, 1) := dgX4_readPlain_2 (181, (.pop, 1)) (List.mem_of_getElem? (i := 16) rfl)
theorem dX4_readPlain_182 : decode cX4_readPlain 182 = .ok (.iconst 1, 1) := dgX4_readPlain_2 (182, (.iconst 1, 1)) (List.mem_of_getElem? (i := 17) rfl)
theorem dX4_readPlain_183 : decode cX4_readPlain 183 = .ok (.ireturn, 1) := dgX4_readPlain_2 (183, (.ireturn, 1)) (List.mem_of_getElem? (i := 18) rfl)
theorem ml_X4_76 : Cond.methodLink RX4 76 yX4_readTest ∈ tblG := tg 744 (by decide +kernel) (by decide +kernel)
theorem im_X4_readTest : Cond.instanceMethod yX4_readTest ∈ tblG := tg 746 (by decide +kernel) (by decide +kernel)
theorem se_X4_readTest : Cond.selects RX4 yX4_readTest yX4_readTest ∈ tblG := tg 10 (by decide +kernel) (by decide +kernel)
theorem cd_X4_readTest : Cond.code yX4_readTest cX4_readTest 6 (some .boolean) ∈ tblG := tg 747 (by decide +kernel) (by decide +kernel)
theorem gW_X4_readTest : GoodIn tblG (wsG yX4_readTest cX4_readTest 6 (some .boolean)) := tgi cd_X4_readTest
theorem gV_X4_76 : GoodIn tblG (wsV RX4 76 RX4 yX4_readTest (wsG yX4_readTest cX4_readTest 6 (some .boolean))) := tgV ml_X4_76 im_X4_readTest se_X4_readTest ini_X4 gW_X4_readTest
theorem hv_X4_readTest : yX4_readTest.cls = RX4 ∧ yX4_readTest.cls ≠ "java/lang/invoke/MethodHandle" ∧ yX4_readTest.cls ≠ "java/lang/invoke/VarHandle" ∧ (parseMethodDescriptor yX4_readTest.desc).map (fun d => d.parameters.length) = some 1 := by decide +kernel
