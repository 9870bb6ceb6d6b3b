set_option maxHeartbeats 4000000 in
set_option maxRecDepth 100000 in
theorem k_word (l : Launch) (G : g5_G) (a_x : Nat) (sz : Nat) (p_a : Int32) (p_t : Int32) (f_x : Nat → Int32) (h_p_a : 0 ≤ p_a.toInt ∧ p_a.toInt ≤ 400) (h_p_t : 0 ≤ p_t.toInt ∧ p_t.toInt ≤ 400) : Met l yX8_wordIn (wsG yX8_wordIn cX8_wordIn 8 (some .int)) ({ frames := 4, cells := 0, slots := 0, locals := 85 }) (va_Pc [.ref a_x, .int p_a, .int p_t] (g5_P G [(a_x, (arI G 400 f_x))] sz)) (va_Qi (fun (r : Int32) (u : va_W) => (∃ (o_r : Int32), (r = o_r) ∧ (u = [(a_x, (arI G 400 f_x))]))) (g5_B G (va_A [(a_x, (arI G 400 f_x))] sz)) (va_A [(a_x, (arI G 400 f_x))] sz)) 0 0 (va_A [(a_x, (arI G 400 f_x))] sz) := by
  refine Met.ofW (cc := cX8_wordIn) (maxL := 8) (ret := (some .int)) (by decide) rfl ?_
  intro p e s m args below meth c s₁ B hml hv
  obtain ⟨rfl, hsz, hP, hK, hD0, hN, hT⟩ := hv
  have hx := B.exec
  have hb := B.bytes
  have hr := B.returns
  have hts : ∀ w ∈ tblG, w.before _ s = true := fun w h => atoms_spec (ws := (wsG yX8_wordIn cX8_wordIn 8 (some .int))) B.pre w (List.mem_cons_of_mem _ h)
  have hown : s.vm.findClass RX8 = some m.cls := findClass_of_methodNamed B.named
  have hlocks := B.notSynchronized
  subst hsz
  have hD := hD0.self (sz := s.heap.size)
  generalize hAe : va_A [(a_x, (arI G 400 f_x))] s.heap.size = A at hD hT ⊢
  have hA : ∀ q : Nat, s.heap.size ≤ q → A q := fun q h => by rw [← hAe]; exact Or.inr h
  have hS : va_S A s.heap s.heap [] := va_S.rf
  have hP : va_P G.1 vwCl [(a_x, (arI G 400 f_x))] s.heap := hP
  have hl := lv_entry ([.ref a_x, .int p_a, .int p_t]) (n := 8) (Nat.le_of_ble_eq_true rfl)
  rw [lg_entry_eq]
  generalize (lg_sl ([.ref a_x, .int p_a, .int p_t]) ++ List.replicate (8 - (lg_sl ([.ref a_x, .int p_a, .int p_t])).length) Slot.unset).toArray = ls at hl ⊢
  have hl : lv_has ls 8 [(0, .ref a_x), (1, .int p_a), (2, .int p_t)] := hl
  obtain ⟨tH, tL, tK, tV, tF, hZH, hTH, hZL, hTL, hRK, hVK, hZC, hZF⟩ := id hT
  refine lv_iconst (v := 0) hx hb dX8_wordIn_0 (by decide) ?_
  refine lv_istore_n (lv' := [(3, .int 0), (0, .ref a_x), (1, .int p_a), (2, .int p_t)]) hx hb dX8_wordIn_1 rfl hl (by decide) rfl (fun ls hl => ?_)
  refine lv_iload_n hx hb dX8_wordIn_2 rfl (lv_at hl 2 rfl) ?_
  refine lv_istore (lv' := [(4, .int p_a), (3, .int 0), (0, .ref a_x), (1, .int p_a), (2, .int p_t)]) hx hb dX8_wordIn_3 hl (by decide) rfl (fun ls hl => ?_)
  refine lv_iconst (v := 1) hx hb dX8_wordIn_5 (by decide) ?_
  refine lv_istore (lv' := [(5, .int 1), (4, .int p_a), (3, .int 0), (0, .ref a_x), (1, .int p_a), (2, .int p_t)]) hx hb dX8_wordIn_6 hl (by decide) rfl (fun ls hl => ?_)
  refine lv_iconst (v := 0) hx hb dX8_wordIn_8 (by decide) ?_
  refine lv_istore (lv' := [(6, .int 0), (5, .int 1), (4, .int p_a), (3, .int 0), (0, .ref a_x), (1, .int p_a), (2, .int p_t)]) hx hb dX8_wordIn_9 hl (by decide) rfl (fun ls hl => ?_)
  refine g5_loop (α := (Int32) × (Int32) × (Int32) × (Int32)) (fun (q : (Int32) × (Int32) × (Int32) × (Int32)) (ls : Array Slot) (H : Heap) (locs : List Loc) => match q with | (k_w, k_a, k_s, k_i) => lv_has ls 8 [(3, .int k_w), (4, .int k_a), (5, .int k_s), (6, .int k_i), (0, .ref a_x), (1, .int p_a), (2, .int p_t)] ∧ va_P G.1 vwCl [(a_x, (arI G 400 f_x))] H ∧ va_D A [(a_x, (arI G 400 f_x))] ∧ va_S A s.heap H locs ∧ (0 ≤ k_a.toInt ∧ k_a.toInt ≤ 1000) ∧ (0 ≤ k_s.toInt ∧ k_s.toInt ≤ 1) ∧ (0 ≤ k_i.toInt ∧ k_i.toInt ≤ 74) ∧ (k_a.toInt ≤ p_a.toInt + k_i.toInt)) (fun (q : (Int32) × (Int32) × (Int32) × (Int32)) => match q with | (k_w, k_a, k_s, k_i) => Int.toNat (74 - k_i.toInt)) (0, p_a, 1, 0) ⟨lv_sub hl [3, 2, 1, 0, 4, 5, 6] rfl, hP, hD, hS, ⟨by omega, by omega⟩, ⟨by decide, by decide⟩, ⟨by decide, by decide⟩, by have z0 : (0 : Int32).toInt = 0 := (by decide); omega⟩ ?_
  rintro ⟨k_w, k_a, k_s, k_i⟩ ls H locs ⟨hl, hP, hD, hS, i_1, i_2, i_3, i_4⟩ ih_11_5
  have hl : lv_has ls 8 [(3, .int k_w), (4, .int k_a), (5, .int k_s), (6, .int k_i), (0, .ref a_x), (1, .int p_a), (2, .int p_t)] := hl
  have i_1 : 0 ≤ k_a.toInt ∧ k_a.toInt ≤ 1000 := i_1
  have i_2 : 0 ≤ k_s.toInt ∧ k_s.toInt ≤ 1 := i_2
  have i_3 : 0 ≤ k_i.toInt ∧ k_i.toInt ≤ 74 := i_3
  have i_4 : k_a.toInt ≤ p_a.toInt + k_i.toInt := i_4
  refine g5_rs [(a_x, (arI G 400 f_x))] hP hD (fun hP hD => ?_)
  refine lv_iload hx hb dX8_wordIn_11 (lv_at hl 3 rfl) ?_
  refine va_ldcS hx hb hown hRK dX8_wordIn_13 ?_
  obtain ⟨hPc, hDc, hFc⟩ := g5_sub3 (wc := []) hP hD hS hA [] (by decide) rfl
  refine va_calli (va_runV (As := []) (rest := [.int k_i]) ⟨hx, hb, hml, hown, hts⟩ (s_length l G tK tV H.size) (cwV 0 hts gV_X8_43 rfl rfl rfl hv_J0_length_8abf5 ⟨Nat.le_of_ble_eq_true rfl, Nat.le_of_ble_eq_true rfl⟩) (g5_preVK hPc hK hDc hN hT hS hFc hRK hVK) rfl rfl hl.1 rfl (lv_room (Nat.le_of_ble_eq_true rfl)) dX8_wordIn_15 ⟨Nat.le_of_ble_eq_true rfl, Nat.le_of_ble_eq_true rfl⟩) hS (fun q _ h => hFc q h) hFc (fun r u t H1 locs ht hvm hw hB hz1 hk1 hS => ?_)
  obtain ⟨hP1, hD1⟩ := hB
  rw [ht] at hP1
  obtain ⟨rfl, rfl⟩ := hw
  have hP := g5_same hP hk1
  generalize H1 = H at hP hS ⊢
  refine lv_icmp_ge (tgt := 98) hx hb dX8_wordIn_18 (by decide) (fun c_6 => ?_) (fun c_6 => ?_)
  ·
    have i_6 : k_i.toInt ≥ 74 := by have z := g5_ge (a := k_i.toInt) (b := 74) (by rfl) (by decide) c_6; omega
    refine lv_iconst (v := (-1)) hx hb dX8_wordIn_98 (by decide) ?_
    exact W.iret (v := (-1)) hx hb hr (fun t ht hW => ⟨⟨(-1), [(a_x, (arI G 400 f_x))], rfl, ⟨(-1), rfl, rfl⟩, by rw [ht]; exact hP.sub [0] rfl, hD.sub [0] (by decide) rfl⟩, hS.F ht⟩) hS.2.2 dX8_wordIn_99
  ·
    have i_6 : k_i.toInt < 74 := by have z := g5_geN (a := k_i.toInt) (b := 74) (by rfl) (by decide) c_6; omega
    refine va_ldcS hx hb hown hRK dX8_wordIn_21 ?_
    refine lv_iload hx hb dX8_wordIn_23 (lv_at hl 3 rfl) ?_
    obtain ⟨hPc, hDc, hFc⟩ := g5_sub3 (wc := []) hP hD hS hA [] (by decide) rfl
    refine va_calli (va_runV (As := [.int k_i]) (rest := []) ⟨hx, hb, hml, hown, hts⟩ (s_charAt l G tK tV H.size k_i ⟨by omega, by omega⟩) (cwV 1 hts gV_X8_49 rfl rfl rfl hv_J0_charAt_5068e ⟨Nat.le_of_ble_eq_true rfl, Nat.le_of_ble_eq_true rfl⟩) (g5_preVK hPc hK hDc hN hT hS hFc hRK hVK) rfl rfl hl.1 rfl (lv_room (Nat.le_of_ble_eq_true rfl)) dX8_wordIn_25 ⟨Nat.le_of_ble_eq_true rfl, Nat.le_of_ble_eq_true rfl⟩) hS (fun q _ h => hFc q h) hFc (fun r u t H1 locs ht hvm hw hB hz1 hk1 hS => ?_)
    obtain ⟨hP1, hD1⟩ := hB
    rw [ht] at hP1
    obtain ⟨z8, i_7, y9, rfl⟩ := hw
    have i_7 : narrow .char (.int z8) = .int z8 := i_7
    have hP := g5_same hP hk1
    generalize H1 = H at hP hS ⊢
    refine g5_ti (v := z8) y9 ?_
    refine lv_istore (lv' := [(7, .int z8), (3, .int k_w), (4, .int k_a), (5, .int k_s), (6, .int k_i), (0, .ref a_x), (1, .int p_a), (2, .int p_t)]) hx hb dX8_wordIn_28 hl (by decide) rfl (fun ls hl => ?_)
    refine lv_iload hx hb dX8_wordIn_30 (lv_at hl 0 rfl) ?_
    refine lv_bipush (v := 32) hx hb dX8_wordIn_32 (by decide) ?_
    refine lv_icmp_eq (tgt := 70) hx hb dX8_wordIn_34 (by decide) (fun c_10 => ?_) (fun c_10 => ?_)
    ·
      have i_10 : z8.toInt = 32 := by have z := g5_eq (a := z8.toInt) (b := 32) (by rfl) (by decide) c_10; omega
      refine lv_iload hx hb dX8_wordIn_70 (lv_at hl 3 rfl) ?_
      refine lv_if_eq (tgt := 83) hx hb dX8_wordIn_72 (by decide) (fun c_11 => ?_) (fun c_11 => ?_)
      ·
        have i_11 : k_s.toInt = 0 := by have z := g5_eq (a := k_s.toInt) (b := 0) (by rfl) (by decide) c_11; omega
        refine lv_iinc (v := (k_w + 1)) (lv' := [(3, .int (k_w + 1)), (7, .int z8), (4, .int k_a), (5, .int k_s), (6, .int k_i), (0, .ref a_x), (1, .int p_a), (2, .int p_t)]) hx hb dX8_wordIn_83 hl (k := 1) rfl rfl (by decide) rfl (fun ls hl => ?_)
        refine lv_iload_n hx hb dX8_wordIn_86 rfl (lv_at hl 6 rfl) ?_
        refine lv_istore (lv' := [(4, .int p_a), (3, .int (k_w + 1)), (7, .int z8), (5, .int k_s), (6, .int k_i), (0, .ref a_x), (1, .int p_a), (2, .int p_t)]) hx hb dX8_wordIn_87 hl (by decide) rfl (fun ls hl => ?_)
        refine lv_iconst (v := 1) hx hb dX8_wordIn_89 (by decide) ?_
        refine lv_istore (lv' := [(5, .int 1), (4, .int p_a), (3, .int (k_w + 1)), (7, .int z8), (6, .int k_i), (0, .ref a_x), (1, .int p_a), (2, .int p_t)]) hx hb dX8_wordIn_90 hl (by decide) rfl (fun ls hl => ?_)
        refine lv_iinc (v := (k_i + 1)) (lv' := [(6, .int (k_i + 1)), (5, .int 1), (4, .int p_a), (3, .int (k_w + 1)), (7, .int z8), (0, .ref a_x), (1, .int p_a), (2, .int p_t)]) hx hb dX8_wordIn_92 hl (k := 4) rfl rfl (by decide) rfl (fun ls hl => ?_)
        have t_12 : (k_i + 1).toInt = k_i.toInt + 1 := g5_iadd (a := k_i.toInt) (b := 1) rfl (by decide) (by omega) (by omega)
        refine lv_goto (tgt := 11) hx hb dX8_wordIn_95 (by decide) ?_
        exact ih_11_5 ((k_w + 1), p_a, 1, (k_i + 1)) ls H locs (show Int.toNat (74 - (k_i + 1).toInt) < Int.toNat (74 - k_i.toInt) from g_up (show k_i.toInt < (k_i + 1).toInt by omega) (show k_i.toInt < 74 by omega)) ⟨lv_sub hl [3, 2, 1, 0, 5, 6, 7] rfl, hP, hD, hS, ⟨by omega, by omega⟩, ⟨by decide, by decide⟩, ⟨by omega, by omega⟩, by omega⟩
      ·
        have n_11 : gNe (k_s.toInt) (0) := by have z := g5_eqN (a := k_s.toInt) (b := 0) (by rfl) (by decide) c_11; unfold gNe; omega
        have i_11 : k_s.toInt ≥ 1 := by have z := g5_eqN (a := k_s.toInt) (b := 0) (by rfl) (by decide) c_11; omega
        refine lv_iload hx hb dX8_wordIn_75 (lv_at hl 2 rfl) ?_
        refine lv_iload_n hx hb dX8_wordIn_77 rfl (lv_at hl 7 rfl) ?_
        refine lv_icmp_ne (tgt := 83) hx hb dX8_wordIn_78 (by decide) (fun c_13 => ?_) (fun c_13 => ?_)
        ·
          have n_13 : gNe (k_a.toInt) (p_t.toInt) := by have z := g5_ne (a := k_a.toInt) (b := p_t.toInt) (by rfl) (by rfl) c_13; unfold gNe; omega
          refine lv_iinc (v := (k_w + 1)) (lv' := [(3, .int (k_w + 1)), (7, .int z8), (4, .int k_a), (5, .int k_s), (6, .int k_i), (0, .ref a_x), (1, .int p_a), (2, .int p_t)]) hx hb dX8_wordIn_83 hl (k := 1) rfl rfl (by decide) rfl (fun ls hl => ?_)
          refine lv_iload_n hx hb dX8_wordIn_86 rfl (lv_at hl 6 rfl) ?_
          refine lv_istore (lv' := [(4, .int p_a), (3, .int (k_w + 1)), (7, .int z8), (5, .int k_s), (6, .int k_i), (0, .ref a_x), (1, .int p_a), (2, .int p_t)]) hx hb dX8_wordIn_87 hl (by decide) rfl (fun ls hl => ?_)
          refine lv_iconst (v := 1) hx hb dX8_wordIn_89 (by decide) ?_
          refine lv_istore (lv' := [(5, .int 1), (4, .int p_a), (3, .int (k_w + 1)), (7, .int z8), (6, .int k_i), (0, .ref a_x), (1, .int p_a), (2, .int p_t)]) hx hb dX8_wordIn_90 hl (by decide) rfl (fun ls hl => ?_)
          refine lv_iinc (v := (k_i + 1)) (lv' := [(6, .int (k_i + 1)), (5, .int 1), (4, .int p_a), (3, .int (k_w + 1)), (7, .int z8), (0, .ref a_x), (1, .int p_a), (2, .int p_t)]) hx hb dX8_wordIn_92 hl (k := 4) rfl rfl (by decide) rfl (fun ls hl => ?_)
          have t_14 : (k_i + 1).toInt = k_i.toInt + 1 := g5_iadd (a := k_i.toInt) (b := 1) rfl (by decide) (by omega) (by omega)
          refine lv_goto (tgt := 11) hx hb dX8_wordIn_95 (by decide) ?_
          exact ih_11_5 ((k_w + 1), p_a, 1, (k_i + 1)) ls H locs (show Int.toNat (74 - (k_i + 1).toInt) < Int.toNat (74 - k_i.toInt) from g_up (show k_i.toInt < (k_i + 1).toInt by omega) (show k_i.toInt < 74 by omega)) ⟨lv_sub hl [3, 2, 1, 0, 5, 6, 7] rfl, hP, hD, hS, ⟨by omega, by omega⟩, ⟨by decide, by decide⟩, ⟨by omega, by omega⟩, by omega⟩
        ·
          have i_13 : k_a.toInt = p_t.toInt := by have z := g5_neN (a := k_a.toInt) (b := p_t.toInt) (by rfl) (by rfl) c_13; omega
          refine lv_iload_n hx hb dX8_wordIn_81 rfl (lv_at hl 1 rfl) ?_
          exact W.iret (v := k_w) hx hb hr (fun t ht hW => ⟨⟨k_w, [(a_x, (arI G 400 f_x))], rfl, ⟨k_w, rfl, rfl⟩, by rw [ht]; exact hP.sub [0] rfl, hD.sub [0] (by decide) rfl⟩, hS.F ht⟩) hS.2.2 dX8_wordIn_82
    ·
      have n_10 : gNe (z8.toInt) (32) := by have z := g5_eqN (a := z8.toInt) (b := 32) (by rfl) (by decide) c_10; unfold gNe; omega
      refine lv_iload hx hb dX8_wordIn_37 (lv_at hl 3 rfl) ?_
      refine lv_if_eq (tgt := 61) hx hb dX8_wordIn_39 (by decide) (fun c_15 => ?_) (fun c_15 => ?_)
      ·
        have i_15 : k_s.toInt = 0 := by have z := g5_eq (a := k_s.toInt) (b := 0) (by rfl) (by decide) c_15; omega
        refine lv_iconst (v := 0) hx hb dX8_wordIn_61 (by decide) ?_
        refine lv_istore (lv' := [(5, .int 0), (7, .int z8), (3, .int k_w), (4, .int k_a), (6, .int k_i), (0, .ref a_x), (1, .int p_a), (2, .int p_t)]) hx hb dX8_wordIn_62 hl (by decide) rfl (fun ls hl => ?_)
        refine lv_iinc (v := (k_a + 1)) (lv' := [(4, .int (k_a + 1)), (5, .int 0), (7, .int z8), (3, .int k_w), (6, .int k_i), (0, .ref a_x), (1, .int p_a), (2, .int p_t)]) hx hb dX8_wordIn_64 hl (k := 3) rfl rfl (by decide) rfl (fun ls hl => ?_)
        have t_16 : (k_a + 1).toInt = k_a.toInt + 1 := g5_iadd (a := k_a.toInt) (b := 1) rfl (by decide) (by omega) (by omega)
        refine lv_goto (tgt := 92) hx hb dX8_wordIn_67 (by decide) ?_
        refine lv_iinc (v := (k_i + 1)) (lv' := [(6, .int (k_i + 1)), (4, .int (k_a + 1)), (5, .int 0), (7, .int z8), (3, .int k_w), (0, .ref a_x), (1, .int p_a), (2, .int p_t)]) hx hb dX8_wordIn_92 hl (k := 4) rfl rfl (by decide) rfl (fun ls hl => ?_)
        have t_17 : (k_i + 1).toInt = k_i.toInt + 1 := g5_iadd (a := k_i.toInt) (b := 1) rfl (by decide) (by omega) (by omega)
        refine lv_goto (tgt := 11) hx hb dX8_wordIn_95 (by decide) ?_
        exact ih_11_5 (k_w, (k_a + 1), 0, (k_i + 1)) ls H locs (show Int.toNat (74 - (k_i + 1).toInt) < Int.toNat (74 - k_i.toInt) from g_up (show k_i.toInt < (k_i + 1).toInt by omega) (show k_i.toInt < 74 by omega)) ⟨lv_sub hl [4, 1, 2, 0, 5, 6, 7] rfl, hP, hD, hS, ⟨by omega, by omega⟩, ⟨by decide, by decide⟩, ⟨by omega, by omega⟩, by omega⟩
      ·
        have n_15 : gNe (k_s.toInt) (0) := by have z := g5_eqN (a := k_s.toInt) (b := 0) (by rfl) (by decide) c_15; unfold gNe; omega
        have i_15 : k_s.toInt ≥ 1 := by have z := g5_eqN (a := k_s.toInt) (b := 0) (by rfl) (by decide) c_15; omega
        refine lv_iload hx hb dX8_wordIn_42 (lv_at hl 2 rfl) ?_
        refine lv_iload_n hx hb dX8_wordIn_44 rfl (lv_at hl 7 rfl) ?_
        refine lv_icmp_ge (tgt := 61) hx hb dX8_wordIn_45 (by decide) (fun c_18 => ?_) (fun c_18 => ?_)
        ·
          have i_18 : k_a.toInt ≥ p_t.toInt := by have z := g5_ge (a := k_a.toInt) (b := p_t.toInt) (by rfl) (by rfl) c_18; omega
          refine lv_iconst (v := 0) hx hb dX8_wordIn_61 (by decide) ?_
          refine lv_istore (lv' := [(5, .int 0), (7, .int z8), (3, .int k_w), (4, .int k_a), (6, .int k_i), (0, .ref a_x), (1, .int p_a), (2, .int p_t)]) hx hb dX8_wordIn_62 hl (by decide) rfl (fun ls hl => ?_)
          refine lv_iinc (v := (k_a + 1)) (lv' := [(4, .int (k_a + 1)), (5, .int 0), (7, .int z8), (3, .int k_w), (6, .int k_i), (0, .ref a_x), (1, .int p_a), (2, .int p_t)]) hx hb dX8_wordIn_64 hl (k := 3) rfl rfl (by decide) rfl (fun ls hl => ?_)
          have t_19 : (k_a + 1).toInt = k_a.toInt + 1 := g5_iadd (a := k_a.toInt) (b := 1) rfl (by decide) (by omega) (by omega)
          refine lv_goto (tgt := 92) hx hb dX8_wordIn_67 (by decide) ?_
          refine lv_iinc (v := (k_i + 1)) (lv' := [(6, .int (k_i + 1)), (4, .int (k_a + 1)), (5, .int 0), (7, .int z8), (3, .int k_w), (0, .ref a_x), (1, .int p_a), (2, .int p_t)]) hx hb dX8_wordIn_92 hl (k := 4) rfl rfl (by decide) rfl (fun ls hl => ?_)
          have t_20 : (k_i + 1).toInt = k_i.toInt + 1 := g5_iadd (a := k_i.toInt) (b := 1) rfl (by decide) (by omega) (by omega)
          refine lv_goto (tgt := 11) hx hb dX8_wordIn_95 (by decide) ?_
          exact ih_11_5 (k_w, (k_a + 1), 0, (k_i + 1)) ls H locs (show Int.toNat (74 - (k_i + 1).toInt) < Int.toNat (74 - k_i.toInt) from g_up (show k_i.toInt < (k_i + 1).toInt by omega) (show k_i.toInt < 74 by omega)) ⟨lv_sub hl [4, 1, 2, 0, 5, 6, 7] rfl, hP, hD, hS, ⟨by omega, by omega⟩, ⟨by decide, by decide⟩, ⟨by omega, by omega⟩, by omega⟩
        ·
          have i_18 : k_a.toInt < p_t.toInt := by have z := g5_geN (a := k_a.toInt) (b := p_t.toInt) (by rfl) (by rfl) c_18; omega
          refine lv_aload_n hx hb dX8_wordIn_48 rfl (lv_at hl 5 rfl) ?_
          refine lv_iload hx hb dX8_wordIn_49 (lv_at hl 2 rfl) ?_
          refine va_iald hx hb hK hP 0 0 rfl rfl (i := k_a) (vp_in_iff.mpr ⟨by omega, by omega⟩) dX8_wordIn_51 ?_
          refine lv_iload hx hb dX8_wordIn_52 (lv_at hl 0 rfl) ?_
          refine lv_icmp_ne (tgt := 61) hx hb dX8_wordIn_54 (by decide) (fun c_21 => ?_) (fun c_21 => ?_)
          ·
            have n_21 : gNe ((f_x k_a.toNatClampNeg).toInt) (z8.toInt) := by have z := g5_ne (a := (f_x k_a.toNatClampNeg).toInt) (b := z8.toInt) (by rfl) (by rfl) c_21; unfold gNe; omega
            refine lv_iconst (v := 0) hx hb dX8_wordIn_61 (by decide) ?_
            refine lv_istore (lv' := [(5, .int 0), (7, .int z8), (3, .int k_w), (4, .int k_a), (6, .int k_i), (0, .ref a_x), (1, .int p_a), (2, .int p_t)]) hx hb dX8_wordIn_62 hl (by decide) rfl (fun ls hl => ?_)
            refine lv_iinc (v := (k_a + 1)) (lv' := [(4, .int (k_a + 1)), (5, .int 0), (7, .int z8), (3, .int k_w), (6, .int k_i), (0, .ref a_x), (1, .int p_a), (2, .int p_t)]) hx hb dX8_wordIn_64 hl (k := 3) rfl rfl (by decide) rfl (fun ls hl => ?_)
            have t_22 : (k_a + 1).toInt = k_a.toInt + 1 := g5_iadd (a := k_a.toInt) (b := 1) rfl (by decide) (by omega) (by omega)
            refine lv_goto (tgt := 92) hx hb dX8_wordIn_67 (by decide) ?_
            refine lv_iinc (v := (k_i + 1)) (lv' := [(6, .int (k_i + 1)), (4, .int (k_a + 1)), (5, .int 0), (7, .int z8), (3, .int k_w), (0, .ref a_x), (1, .int p_a), (2, .int p_t)]) hx hb dX8_wordIn_92 hl (k := 4) rfl rfl (by decide) rfl (fun ls hl => ?_)
            have t_23 : (k_i + 1).toInt = k_i.toInt + 1 := g5_iadd (a := k_i.toInt) (b := 1) rfl (by decide) (by omega) (by omega)
            refine lv_goto (tgt := 11) hx hb dX8_wordIn_95 (by decide) ?_
            exact ih_11_5 (k_w, (k_a + 1), 0, (k_i + 1)) ls H locs (show Int.toNat (74 - (k_i + 1).toInt) < Int.toNat (74 - k_i.toInt) from g_up (show k_i.toInt < (k_i + 1).toInt by omega) (show k_i.toInt < 74 by omega)) ⟨lv_sub hl [4, 1, 2, 0, 5, 6, 7] rfl, hP, hD, hS, ⟨by omega, by omega⟩, ⟨by decide, by decide⟩, ⟨by omega, by omega⟩, by omega⟩
          ·
            have i_21 : (f_x k_a.toNatClampNeg).toInt = z8.toInt := by have z := g5_neN (a := (f_x k_a.toNatClampNeg).toInt) (b := z8.toInt) (by rfl) (by rfl) c_21; omega
            refine lv_iconst (v := 1) hx hb dX8_wordIn_57 (by decide) ?_
            refine lv_goto (tgt := 62) hx hb dX8_wordIn_58 (by decide) ?_
            refine lv_istore (lv' := [(5, .int 1), (7, .int z8), (3, .int k_w), (4, .int k_a), (6, .int k_i), (0, .ref a_x), (1, .int p_a), (2, .int p_t)]) hx hb dX8_wordIn_62 hl (by decide) rfl (fun ls hl => ?_)
            refine lv_iinc (v := (k_a + 1)) (lv' := [(4, .int (k_a + 1)), (5, .int 1), (7, .int z8), (3, .int k_w), (6, .int k_i), (0, .ref a_x), (1, .int p_a), (2, .int p_t)]) hx hb dX8_wordIn_64 hl (k := 3) rfl rfl (by decide) rfl (fun ls hl => ?_)
            have t_24 : (k_a + 1).toInt = k_a.toInt + 1 := g5_iadd (a := k_a.toInt) (b := 1) rfl (by decide) (by omega) (by omega)
            refine lv_goto (tgt := 92) hx hb dX8_wordIn_67 (by decide) ?_
            refine lv_iinc (v := (k_i + 1)) (lv' := [(6, .int (k_i + 1)), (4, .int (k_a + 1)), (5, .int 1), (7, .int z8), (3, .int k_w), (0, .ref a_x), (1, .int p_a), (2, .int p_t)]) hx hb dX8_wordIn_92 hl (k := 4) rfl rfl (by decide) rfl (fun ls hl => ?_)
            have t_25 : (k_i + 1).toInt = k_i.toInt + 1 := g5_iadd (a := k_i.toInt) (b := 1) rfl (by decide) (by omega) (by omega)
            refine lv_goto (tgt := 11) hx hb dX8_wordIn_95 (by decide) ?_
            exact ih_11_5 (k_w, (k_a + 1), 1, (k_i + 1)) ls H locs (show Int.toNat (74 - (k_i + 1).toInt) < Int.toNat (74 - k_i.toInt) from g_up (show k_i.toInt < (k_i + 1).toInt by omega) (show k_i.toInt < 74 by omega)) ⟨lv_sub hl [4, 1, 2, 0, 5, 6, 7] rfl, hP, hD, hS, ⟨by omega, by omega⟩, ⟨by decide, by decide⟩, ⟨by omega, by omega⟩, by omega⟩
theorem dgX8_kindOf_0 : ∀ r ∈ ([(0, (.aload_n 0, 1)), (1, (.iload_n 1, 1)), (2, (.iaload, 1)), (3, (.invokestatic 25, 3)), (6, (.ifCond .eq 25, 3)), (9, (.aload_n 0, 1)), (10, (.iload_n 1, 1)), (11, (.iload_n 2, 1)), (12, (.invokestatic 29, 3)), (15, (.sipush 1000, 3)), (18, (.if_icmp .gt 9, 3)), (21, (.sipush 300, 3)), (24, (.goto 6, 3)), (27, (.sipush 301, 3)), (30, (.ireturn, 1)), (31, (.aload_n 0, 1)), (32, (.iload_n 1, 1)), (33, (.iaload, 1)), (34, (.invokestatic 35, 3)), (37, (.ifCond .eq 27, 3)), (40, (.aload_n 0, 1)), (41, (.iload_n 1, 1)), (42, (.iload_n 2, 1)), (43, (.invokestatic 38, 3)), (46, (.istore_n 3, 1)), (47, (.iload_n 3, 1)), (48, (.iconst (-1), 1)), (49, (.if_icmp .ne 9, 3)), (52, (.sipush 301, 3)), (55, (.goto 8, 3)), (58, (.sipush 256, 3)), (61, (.iload_n 3, 1)), (62, (.iadd, 1)), (63, (.ireturn, 1)), (64, (.aload_n 0, 1)), (65, (.iload_n 1, 1)), (66, (.iaload, 1)), (67, (.ireturn, 1))] : List (Nat × (Instr × Nat))), decode cX8_kindOf r.1 = .ok r.2 := by decide +kernel
theorem dX8_kindOf_0 : decode cX8_kindOf 0 = .ok (.aload_n 0, 1) := dgX8_kindOf_0 (0, (.aload_n 0, 1)) (List.mem_of_getElem? (i := 0) rfl)
theorem dX8_kindOf_1 : decode cX8_kindOf 1 = .ok (.iload_n 1, 1) := dgX8_kindOf_0 (1, (.iload_n 1, 1)) (List.mem_of_getElem? (i := 1) rfl)
theorem dX8_kindOf_2 : decode cX8_kindOf 2 = .ok (.iaload, 1) := dgX8_kindOf_0 (2, (.iaload, 1)) (List.mem_of_getElem? (i := 2) rfl)
theorem dX8_kindOf_3 : decode cX8_kindOf 3 = .ok (.invokestatic 25, 3) := dgX8_kindOf_0 (3, (.invokestatic 25, 3)) (List.mem_of_getElem? (i := 3) rfl)
theorem dX8_kindOf_6 : decode cX8_kindOf 6 = .ok (.ifCond .eq 25, 3) := dgX8_kindOf_0 (6, (.ifCond .eq 25, 3)) (List.mem_of_getElem? (i := 4) rfl)
theorem dX8_kindOf_9 : decode cX8_kindOf 9 = .ok (.aload_n 0, 1) := dgX8_kindOf_0 (9, (.aload_n 0, 1)) (List.mem_of_getElem? (i := 5) rfl)
theorem dX8_kindOf_10 : decode cX8_kindOf 10 = .ok (.iload_n 1, 1) := dgX8_kindOf_0 (10, (.iload_n 1, 1)) (List.mem_of_getElem? (i := 6) rfl)
theorem dX8_kindOf_11 : decode cX8_kindOf 11 = .ok (.iload_n 2, 1) := dgX8_kindOf_0 (11, (.iload_n 2, 1)) (List.mem_of_getElem? (i := 7) rfl)
theorem dX8_kindOf_12 : decode cX8_kindOf 12 = .ok (.invokestatic 29, 3) := dgX8_kindOf_0 (12, (.invokestatic 29, 3)) (List.mem_of_getElem? (i := 8) rfl)
theorem dX8_kindOf_15 : decode cX8_kindOf 15 = .ok (.sipush 1000, 3) := dgX8_kindOf_0 (15, (.sipush 1000, 3)) (List.mem_of_getElem? (i := 9) rfl)
theorem dX8_kindOf_18 : decode cX8_kindOf 18 = .ok (.if_icmp .gt 9, 3) := dgX8_kindOf_0 (18, (.if_icmp .gt 9, 3)) (List.mem_of_getElem? (i := 10) rfl)
theorem dX8_kindOf_21 : decode cX8_kindOf 21 = .ok (.sipush 300, 3) := dgX8_kindOf_0 (21, (.sipush 300, 3)) (List.mem_of_getElem? (i := 11) rfl)
theorem dX8_kindOf_24 : decode cX8_kindOf 24 = .ok (.goto 6, 3) := dgX8_kindOf_0 (24, (.goto 6, 3)) (List.mem_of_getElem? (i := 12) rfl)
theorem dX8_kindOf_27 : decode cX8_kindOf 27 = .ok (.sipush 301, 3) := dgX8_kindOf_0 (27, (.sipush 301, 3)) (List.mem_of_getElem? (i := 13) rfl)
theorem dX8_kindOf_30 : decode cX8_kindOf 30 = .ok (.ireturn, 1) := dgX8_kindOf_0 (30, (.ireturn, 1)) (List.mem_of_getElem? (i := 14) rfl)
theorem dX8_kindOf_31 : decode cX8_kindOf 31 = .ok (.aload_n 0, 1) := dgX8_kindOf_0 (31, (.aload_n 0, 1)) (List.mem_of_getElem? (i := 15) rfl)
theorem dX8_kindOf_32 : decode cX8_kindOf 32 = .ok (.iload_n 1, 1) := dgX8_kindOf_0 (32, (.iload_n 1, 1)) (List.mem_of_getElem? (i := 16) rfl)
theorem dX8_kindOf_33 : decode cX8_kindOf 33 = .ok (.iaload, 1) := dgX8_kindOf_0 (33, (.iaload, 1)) (List.mem_of_getElem? (i := 17) rfl)
theorem dX8_kindOf_34 : decode cX8_kindOf 34 = .ok (.invokestatic 35, 3) := dgX8_kindOf_0 (34, (.invokestatic 35, 3)) (List.mem_of_getElem? (i := 18) rfl)
theorem dX8_kindOf_37 : decode cX8_kindOf 37 = .ok (.ifCond .eq 27, 3) := dgX8_kindOf_0 (37, (.ifCond .eq 27, 3)) (List.mem_of_getElem? (i := 19) rfl)
theorem dX8_kindOf_40 : decode cX8_kindOf 40 = .ok (.aload_n 0, 1) := dgX8_kindOf_0 (40, (.aload_n 0, 1)) (List.mem_of_getElem? (i := 20) rfl)
theorem dX8_kindOf_41 : decode cX8_kindOf 41 = .ok (.iload_n 1, 1) := dgX8_kindOf_0 (41, (.iload_n 1, 1)) (List.mem_of_getElem? (i := 21) rfl)
theorem dX8_kindOf_42 : decode cX8_kindOf 42 = .ok (.iload_n 2, 1) := dgX8_kindOf_0 (42, (.iload_n 2, 1)) (List.mem_of_getElem? (i := 22) rfl)
theorem dX8_kindOf_43 : decode cX8_kindOf 43 = .ok (.invokestatic 38, 3) := dgX8_kindOf_0 (43, (.invokestatic 38, 3)) (List.mem_of_getElem? (i := 23) rfl)
theorem dX8_kindOf_46 : decode cX8_kindOf 46 = .ok (.istore_n 3, 1) := dgX8_kindOf_0 (46, (.istore_n 3, 1)) (List.mem_of_getElem? (i := 24) rfl)
theorem dX8_kindOf_47 : decode cX8_kindOf 47 = .ok (.iload_n 3, 1) := dgX8_kindOf_0 (47, (.iload_n 3, 1)) (List.mem_of_getElem? (i := 25) rfl)
theorem dX8_kindOf_48 : decode cX8_kindOf 48 = .ok (.iconst (-1), 1) := dgX8_kindOf_0 (48, (.iconst (-1), 1)) (List.mem_of_getElem? (i := 26) rfl)
theorem dX8_kindOf_49 : decode cX8_kindOf 49 = .ok (.if_icmp .ne 9, 3) := dgX8_kindOf_0 (49, (.if_icmp .ne 9, 3)) (List.mem_of_getElem? (i := 27) rfl)
theorem dX8_kindOf_52 : decode cX8_kindOf 52 = .ok (.sipush 301, 3) := dgX8_kindOf_0 (52, (.sipush 301, 3)) (List.mem_of_getElem? (i := 28) rfl)
theorem dX8_kindOf_55 : decode cX8_kindOf 55 = .ok (.goto 8, 3) := dgX8_kindOf_0 (55, (.goto 8, 3)) (List.mem_of_getElem? (i := 29) rfl)
theorem dX8_kindOf_58 : decode cX8_kindOf 58 = .ok (.sipush 256, 3) := dgX8_kindOf_0 (58, (.sipush 256, 3)) (List.mem_of_getElem? (i := 30) rfl)
theorem dX8_kindOf_61 : decode cX8_kindOf 61 = .ok (.iload_n 3, 1) := dgX8_kindOf_0 (61, (.iload_n 3, 1)) (List.mem_of_getElem? (i := 31) rfl)
theorem dX8_kindOf_62 : decode cX8_kindOf 62 = .ok (.iadd, 1) := dgX8_kindOf_0 (62, (.iadd, 1)) (List.mem_of_getElem? (i := 32) rfl)
theorem dX8_kindOf_63 : decode cX8_kindOf 63 = .ok (.ireturn, 1) := dgX8_kindOf_0 (63, (.ireturn, 1)) (List.mem_of_getElem? (i := 33) rfl)
theorem dX8_kindOf_64 : decode cX8_kindOf 64 = .ok (.aload_n 0, 1) := dgX8_kindOf_0 (64, (.aload_n 0, 1)) (List.mem_of_getElem? (i := 34) rfl)
theorem dX8_kindOf_65 : decode cX8_kindOf 65 = .ok (.iload_n 1, 1) := dgX8_kindOf_0 (65, (.iload_n 1, 1)) (List.mem_of_getElem? (i := 35) rfl)
theorem dX8_kindOf_66 : decode cX8_kindOf 66 = .ok (.iaload, 1) := dgX8_kindOf_0 (66, (.iaload, 1)) (List.mem_of_getElem? (i := 36) rfl)
theorem dX8_kindOf_67 : decode cX8_kindOf 67 = .ok (.ireturn, 1) := dgX8_kindOf_0 (67, (.ireturn, 1)) (List.mem_of_getElem? (i := 37) rfl)
theorem ml_X8_29 : Cond.methodLink RX8 29 yX8_numberIn ∈ tblG := tg 658 (by decide +kernel) (by decide +kernel)
theorem st_X8_numberIn : Cond.static yX8_numberIn ∈ tblG := tg 659 (by decide +kernel) (by decide +kernel)
theorem cd_X8_numberIn : Cond.code yX8_numberIn cX8_numberIn 5 (some .int) ∈ tblG := tg 660 (by decide +kernel) (by decide +kernel)
theorem gW_X8_numberIn : GoodIn tblG (wsG yX8_numberIn cX8_numberIn 5 (some .int)) := tgi cd_X8_numberIn
theorem gS_X8_29 : GoodIn tblG (va_wsS RX8 29 yX8_numberIn (wsG yX8_numberIn cX8_numberIn 5 (some .int))) := tgS ml_X8_29 st_X8_numberIn ini_X8 gW_X8_numberIn
theorem hs_X8_numberIn : yX8_numberIn.cls ≠ "java/lang/invoke/MethodHandle" ∧ yX8_numberIn.cls ≠ "java/lang/invoke/VarHandle" ∧ (parseMethodDescriptor yX8_numberIn.desc).map (fun d => d.parameters.length) = some 3 := by decide +kernel
theorem ml_X8_38 : Cond.methodLink RX8 38 yX8_wordIn ∈ tblG := tg 664 (by decide +kernel) (by decide +kernel)
theorem st_X8_wordIn : Cond.static yX8_wordIn ∈ tblG := tg 665 (by decide +kernel) (by decide +kernel)
theorem cd_X8_wordIn : Cond.code yX8_wordIn cX8_wordIn 8 (some .int) ∈ tblG := tg 666 (by decide +kernel) (by decide +kernel)
theorem gW_X8_wordIn : GoodIn tblG (wsG yX8_wordIn cX8_wordIn 8 (some .int)) := tgi cd_X8_wordIn
theorem gS_X8_38 : GoodIn tblG (va_wsS RX8 38 yX8_wordIn (wsG yX8_wordIn cX8_wordIn 8 (some .int))) := tgS ml_X8_38 st_X8_wordIn ini_X8 gW_X8_wordIn
theorem hs_X8_wordIn : yX8_wordIn.cls ≠ "java/lang/invoke/MethodHandle" ∧ yX8_wordIn.cls ≠ "java/lang/invoke/VarHandle" ∧ (parseMethodDescriptor yX8_wordIn.desc).map (fun d => d.parameters.length) = some 3 := by decide +kernel
set_option maxHeartbeats 4000000 in
set_option maxRecDepth 100000 in
theorem k_kindOf (l : Launch) (G : g5_G) (a_x : Nat) (sz : Nat) (p_a : Int32) (p_t : Int32) (f_x : Nat → Int32) (h_p_a : 0 ≤ p_a.toInt ∧ p_a.toInt ≤ 399) (h_p_t : 0 ≤ p_t.toInt ∧ p_t.toInt ≤ 400) : Met l yX8_kindOf (wsG yX8_kindOf cX8_kindOf 4 (some .int)) ({ frames := 5, cells := 0, slots := 0, locals := 112 }) (va_Pc [.ref a_x, .int p_a, .int p_t] (g5_P G [(a_x, (arI G 400 f_x))] sz)) (va_Qi (fun (r : Int32) (u : va_W) => (∃ (o_r : Int32), (48 ≤ (f_x p_a.toNatClampNeg).toInt ∧ (f_x p_a.toNatClampNeg).toInt ≤ 57 → o_r = 300 → (nmbO f_x p_a p_t 0).toInt ≤ 1000) ∧ (r = o_r) ∧ (u = [(a_x, (arI G 400 f_x))]))) (g5_B G (va_A [(a_x, (arI G 400 f_x))] sz)) (va_A [(a_x, (arI G 400 f_x))] sz)) 0 0 (va_A [(a_x, (arI G 400 f_x))] sz) := by
  refine Met.ofW (cc := cX8_kindOf) (maxL := 4) (ret := (some .int)) (by decide) rfl ?_
  intro p e s m args below meth c s₁ B hml hv
  obtain ⟨rfl, hsz, hP, hK, hD0, hN, hT⟩ := hv
  have hx := B.exec
  have hb := B.bytes
  have hr := B.returns
  have hts : ∀ w ∈ tblG, w.before _ s = true := fun w h => atoms_spec (ws := (wsG yX8_kindOf cX8_kindOf 4 (some .int))) B.pre w (List.mem_cons_of_mem _ h)
  have hown : s.vm.findClass RX8 = some m.cls := findClass_of_methodNamed B.named
  have hlocks := B.notSynchronized
  subst hsz
  have hD := hD0.self (sz := s.heap.size)
  generalize hAe : va_A [(a_x, (arI G 400 f_x))] s.heap.size = A at hD hT ⊢
  have hA : ∀ q : Nat, s.heap.size ≤ q → A q := fun q h => by rw [← hAe]; exact Or.inr h
  have hS : va_S A s.heap s.heap [] := va_S.rf
  have hP : va_P G.1 vwCl [(a_x, (arI G 400 f_x))] s.heap := hP
  have hl := lv_entry ([.ref a_x, .int p_a, .int p_t]) (n := 4) (Nat.le_of_ble_eq_true rfl)
  rw [lg_entry_eq]
  generalize (lg_sl ([.ref a_x, .int p_a, .int p_t]) ++ List.replicate (4 - (lg_sl ([.ref a_x, .int p_a, .int p_t])).length) Slot.unset).toArray = ls at hl ⊢
  have hl : lv_has ls 4 [(0, .ref a_x), (1, .int p_a), (2, .int p_t)] := hl
  refine lv_aload_n hx hb dX8_kindOf_0 rfl (lv_at hl 0 rfl) ?_
  refine lv_iload_n hx hb dX8_kindOf_1 rfl (lv_at hl 1 rfl) ?_
  refine va_iald hx hb hK hP 0 0 rfl rfl (i := p_a) (vp_in_iff.mpr ⟨by omega, by omega⟩) dX8_kindOf_2 ?_
  obtain ⟨hPc, hDc, hFc⟩ := g5_sub3 (wc := []) hP hD hS hA [] (by decide) rfl
  refine va_calli (va_runS (As := [.int (f_x p_a.toNatClampNeg)]) (rest := []) ⟨hx, hb, hml, hown, hts⟩ (k_digit l G s.heap.size (f_x p_a.toNatClampNeg)) (va_cwS 1 hts gS_X8_25 rfl rfl rfl hs_X8_isDigit ⟨Nat.le_of_ble_eq_true rfl, Nat.le_of_ble_eq_true rfl⟩) (g5_preS hPc hK hDc hN hT hS hFc) rfl rfl hl.1 rfl (lv_room (Nat.le_of_ble_eq_true rfl)) dX8_kindOf_3 ⟨Nat.le_of_ble_eq_true rfl, Nat.le_of_ble_eq_true rfl⟩) hS (fun q _ h => hFc q h) hFc (fun r u t H1 locs ht hvm hw hB hz1 hk1 hS => ?_)
  obtain ⟨hP1, hD1⟩ := hB
  rw [ht] at hP1
  rcases hw with ⟨i_1, rfl, rfl⟩ | ⟨i_2, rfl, rfl⟩
  ·
    have i_1 : 48 ≤ (f_x p_a.toNatClampNeg).toInt ∧ (f_x p_a.toNatClampNeg).toInt ≤ 57 := i_1
    have hP := g5_same hP hk1
    generalize H1 = H at hP hS ⊢
    refine lv_if_eq (tgt := 31) hx hb dX8_kindOf_6 (by decide) (fun c_3 => ?_) (fun c_3 => ?_)
    ·
      exact absurd c_3 (by decide)
    ·
      refine lv_aload_n hx hb dX8_kindOf_9 rfl (lv_at hl 0 rfl) ?_
      refine lv_iload_n hx hb dX8_kindOf_10 rfl (lv_at hl 1 rfl) ?_
      refine lv_iload_n hx hb dX8_kindOf_11 rfl (lv_at hl 2 rfl) ?_
      obtain ⟨hPc, hDc, hFc⟩ := g5_sub3 (wc := [(a_x, (arI G 400 f_x))]) hP hD hS hA [0] (by decide) rfl
      refine va_calli (va_runS (As := [.ref a_x, .int p_a, .int p_t]) (rest := []) ⟨hx, hb, hml, hown, hts⟩ (k_number l G a_x H.size p_a p_t f_x ⟨by omega, by omega⟩ h_p_t) (va_cwS 3 hts gS_X8_29 rfl rfl rfl hs_X8_numberIn ⟨Nat.le_of_ble_eq_true rfl, Nat.le_of_ble_eq_true rfl⟩) (g5_preS hPc hK hDc hN hT hS hFc) rfl rfl hl.1 rfl (lv_room (Nat.le_of_ble_eq_true rfl)) dX8_kindOf_12 ⟨Nat.le_of_ble_eq_true rfl, Nat.le_of_ble_eq_true rfl⟩) hS (fun q _ h => hFc q h) hFc (fun r u t H1 locs ht hvm hw hB hz1 hk1 hS => ?_)
      obtain ⟨hP1, hD1⟩ := hB
      rw [ht] at hP1
      obtain ⟨z5, i_4, y6, rfl⟩ := hw
      have i_4 : z5 = nmbO f_x p_a p_t 0 := i_4
      obtain ⟨hP, hD⟩ := va_join (wr := []) hP hD [0] [] rfl rfl (by decide) (by decide) hk1 hFc hP1 hD1
      generalize H1 = H at hP hS ⊢
      refine g5_rs [(a_x, (arI G 400 f_x))] hP hD (fun hP hD => ?_)
      refine g5_ti (v := z5) y6 ?_
      refine lv_sipush (v := 1000) hx hb dX8_kindOf_15 (by decide) ?_
      refine lv_icmp_gt (tgt := 27) hx hb dX8_kindOf_18 (by decide) (fun c_7 => ?_) (fun c_7 => ?_)
      ·
        have i_7 : z5.toInt > 1000 := by have z := g5_gt (a := z5.toInt) (b := 1000) (by rfl) (by decide) c_7; omega
        refine lv_sipush (v := 301) hx hb dX8_kindOf_27 (by decide) ?_
        exact W.iret (v := 301) hx hb hr (fun t ht hW => ⟨⟨301, [(a_x, (arI G 400 f_x))], rfl, ⟨301, fun _ h => absurd h (by decide), rfl, rfl⟩, by rw [ht]; exact hP.sub [0] rfl, hD.sub [0] (by decide) rfl⟩, hS.F ht⟩) hS.2.2 dX8_kindOf_30
      ·
        have i_7 : z5.toInt ≤ 1000 := by have z := g5_gtN (a := z5.toInt) (b := 1000) (by rfl) (by decide) c_7; omega
        refine lv_sipush (v := 300) hx hb dX8_kindOf_21 (by decide) ?_
        refine lv_goto (tgt := 30) hx hb dX8_kindOf_24 (by decide) ?_
        exact W.iret (v := 300) hx hb hr (fun t ht hW => ⟨⟨300, [(a_x, (arI G 400 f_x))], rfl, ⟨300, fun _ _ => by rw [← i_4]; omega, rfl, rfl⟩, by rw [ht]; exact hP.sub [0] rfl, hD.sub [0] (by decide) rfl⟩, hS.F ht⟩) hS.2.2 dX8_kindOf_30
  ·
    have i_2 : (f_x p_a.toNatClampNeg).toInt < 48 ∨ 57 < (f_x p_a.toNatClampNeg).toInt := i_2
    have hP := g5_same hP hk1
    generalize H1 = H at hP hS ⊢
    refine lv_if_eq (tgt := 31) hx hb dX8_kindOf_6 (by decide) (fun c_8 => ?_) (fun c_8 => ?_)
    ·
      refine lv_aload_n hx hb dX8_kindOf_31 rfl (lv_at hl 0 rfl) ?_
      refine lv_iload_n hx hb dX8_kindOf_32 rfl (lv_at hl 1 rfl) ?_
      refine va_iald hx hb hK hP 0 0 rfl rfl (i := p_a) (vp_in_iff.mpr ⟨by omega, by omega⟩) dX8_kindOf_33 ?_
      obtain ⟨hPc, hDc, hFc⟩ := g5_sub3 (wc := []) hP hD hS hA [] (by decide) rfl
      refine va_calli (va_runS (As := [.int (f_x p_a.toNatClampNeg)]) (rest := []) ⟨hx, hb, hml, hown, hts⟩ (k_letter l G H.size (f_x p_a.toNatClampNeg)) (va_cwS 1 hts gS_X8_35 rfl rfl rfl hs_X8_isLetter ⟨Nat.le_of_ble_eq_true rfl, Nat.le_of_ble_eq_true rfl⟩) (g5_preS hPc hK hDc hN hT hS hFc) rfl rfl hl.1 rfl (lv_room (Nat.le_of_ble_eq_true rfl)) dX8_kindOf_34 ⟨Nat.le_of_ble_eq_true rfl, Nat.le_of_ble_eq_true rfl⟩) hS (fun q _ h => hFc q h) hFc (fun r u t H1 locs ht hvm hw hB hz1 hk1 hS => ?_)
      obtain ⟨hP1, hD1⟩ := hB
      rw [ht] at hP1
      obtain ⟨z10, i_9, y11, rfl⟩ := hw
      have i_9 : 0 ≤ z10.toInt ∧ z10.toInt ≤ 1 := i_9
      have hP := g5_same hP hk1
      generalize H1 = H at hP hS ⊢
      refine g5_ti (v := z10) y11 ?_
      refine lv_if_eq (tgt := 64) hx hb dX8_kindOf_37 (by decide) (fun c_12 => ?_) (fun c_12 => ?_)
      ·
        have i_12 : z10.toInt = 0 := by have z := g5_eq (a := z10.toInt) (b := 0) (by rfl) (by decide) c_12; omega
        refine lv_aload_n hx hb dX8_kindOf_64 rfl (lv_at hl 0 rfl) ?_
        refine lv_iload_n hx hb dX8_kindOf_65 rfl (lv_at hl 1 rfl) ?_
        refine va_iald hx hb hK hP 0 0 rfl rfl (i := p_a) (vp_in_iff.mpr ⟨by omega, by omega⟩) dX8_kindOf_66 ?_
        exact W.iret (v := (f_x p_a.toNatClampNeg)) hx hb hr (fun t ht hW => ⟨⟨(f_x p_a.toNatClampNeg), [(a_x, (arI G 400 f_x))], rfl, ⟨(f_x p_a.toNatClampNeg), fun h => absurd h (by omega), rfl, rfl⟩, by rw [ht]; exact hP.sub [0] rfl, hD.sub [0] (by decide) rfl⟩, hS.F ht⟩) hS.2.2 dX8_kindOf_67
      ·
        have n_12 : gNe (z10.toInt) (0) := by have z := g5_eqN (a := z10.toInt) (b := 0) (by rfl) (by decide) c_12; unfold gNe; omega
        have i_12 : z10.toInt ≥ 1 := by have z := g5_eqN (a := z10.toInt) (b := 0) (by rfl) (by decide) c_12; omega
        refine lv_aload_n hx hb dX8_kindOf_40 rfl (lv_at hl 0 rfl) ?_
        refine lv_iload_n hx hb dX8_kindOf_41 rfl (lv_at hl 1 rfl) ?_
        refine lv_iload_n hx hb dX8_kindOf_42 rfl (lv_at hl 2 rfl) ?_
        obtain ⟨hPc, hDc, hFc⟩ := g5_sub3 (wc := [(a_x, (arI G 400 f_x))]) hP hD hS hA [0] (by decide) rfl
        refine va_calli (va_runS (As := [.ref a_x, .int p_a, .int p_t]) (rest := []) ⟨hx, hb, hml, hown, hts⟩ (k_word l G a_x H.size p_a p_t f_x ⟨by omega, by omega⟩ h_p_t) (va_cwS 3 hts gS_X8_38 rfl rfl rfl hs_X8_wordIn ⟨Nat.le_of_ble_eq_true rfl, Nat.le_of_ble_eq_true rfl⟩) (g5_preS hPc hK hDc hN hT hS hFc) rfl rfl hl.1 rfl (lv_room (Nat.le_of_ble_eq_true rfl)) dX8_kindOf_43 ⟨Nat.le_of_ble_eq_true rfl, Nat.le_of_ble_eq_true rfl⟩) hS (fun q _ h => hFc q h) hFc (fun r u t H1 locs ht hvm hw hB hz1 hk1 hS => ?_)
        obtain ⟨hP1, hD1⟩ := hB
        rw [ht] at hP1
        obtain ⟨z13, y14, rfl⟩ := hw
        obtain ⟨hP, hD⟩ := va_join (wr := []) hP hD [0] [] rfl rfl (by decide) (by decide) hk1 hFc hP1 hD1
        generalize H1 = H at hP hS ⊢
        refine g5_rs [(a_x, (arI G 400 f_x))] hP hD (fun hP hD => ?_)
        refine g5_ti (v := z13) y14 ?_
        refine lv_istore_n (lv' := [(3, .int z13), (0, .ref a_x), (1, .int p_a), (2, .int p_t)]) hx hb dX8_kindOf_46 rfl hl (by decide) rfl (fun ls hl => ?_)
        refine lv_iload_n hx hb dX8_kindOf_47 rfl (lv_at hl 0 rfl) ?_
        refine lv_iconst (v := (-1)) hx hb dX8_kindOf_48 (by decide) ?_
        refine lv_icmp_ne (tgt := 58) hx hb dX8_kindOf_49 (by decide) (fun c_15 => ?_) (fun c_15 => ?_)
        ·
          have n_15 : gNe (z13.toInt) ((-1)) := by have z := g5_ne (a := z13.toInt) (b := (-1)) (by rfl) (by decide) c_15; unfold gNe; omega
          refine lv_sipush (v := 256) hx hb dX8_kindOf_58 (by decide) ?_
          refine lv_iload_n hx hb dX8_kindOf_61 rfl (lv_at hl 0 rfl) ?_
          refine lv_iadd hx hb dX8_kindOf_62 ?_
          exact W.iret (v := (256 + z13)) hx hb hr (fun t ht hW => ⟨⟨(256 + z13), [(a_x, (arI G 400 f_x))], rfl, ⟨(256 + z13), fun h => absurd h (by omega), rfl, rfl⟩, by rw [ht]; exact hP.sub [0] rfl, hD.sub [0] (by decide) rfl⟩, hS.F ht⟩) hS.2.2 dX8_kindOf_63
        ·
          have i_15 : z13.toInt = (-1) := by have z := g5_neN (a := z13.toInt) (b := (-1)) (by rfl) (by decide) c_15; omega
          refine lv_sipush (v := 301) hx hb dX8_kindOf_52 (by decide) ?_
          refine lv_goto (tgt := 63) hx hb dX8_kindOf_55 (by decide) ?_
          exact W.iret (v := 301) hx hb hr (fun t ht hW => ⟨⟨301, [(a_x, (arI G 400 f_x))], rfl, ⟨301, fun h => absurd h (by omega), rfl, rfl⟩, by rw [ht]; exact hP.sub [0] rfl, hD.sub [0] (by decide) rfl⟩, hS.F ht⟩) hS.2.2 dX8_kindOf_63
    ·
      exact absurd c_8 (by decide)
theorem dgX8_kindAt_0 : ∀ r ∈ ([(0, (.iload_n 1, 1)), (1, (.ifCond .lt 21, 3)), (4, (.iload_n 1, 1)), (5, (.aload_n 0, 1)), (6, (.getfield 9, 3)), (9, (.arraylength, 1)), (10, (.if_icmp .ge 12, 3)), (13, (.aload_n 0, 1)), (14, (.getfield 9, 3)), (17, (.iload_n 1, 1)), (18, (.iaload, 1)), (19, (.goto 6, 3)), (22, (.sipush 302, 3)), (25, (.ireturn, 1))] : List (Nat × (Instr × Nat))), decode cX8_kindAt r.1 = .ok r.2 := by decide +kernel
theorem dX8_kindAt_0 : decode cX8_kindAt 0 = .ok (.iload_n 1, 1) := dgX8_kindAt_0 (0, (.iload_n 1, 1)) (List.mem_of_getElem? (i := 0) rfl)
theorem dX8_kindAt_1 : decode cX8_kindAt 1 = .ok (.ifCond .lt 21, 3) := dgX8_kindAt_0 (1, (.ifCond .lt 21, 3)) (List.mem_of_getElem? (i := 1) rfl)
theorem dX8_kindAt_4 : decode cX8_kindAt 4 = .ok (.iload_n 1, 1) := dgX8_kindAt_0 (4, (.iload_n 1, 1)) (List.mem_of_getElem? (i := 2) rfl)
theorem dX8_kindAt_5 : decode cX8_kindAt 5 = .ok (.aload_n 0, 1) := dgX8_kindAt_0 (5, (.aload_n 0, 1)) (List.mem_of_getElem? (i := 3) rfl)
theorem dX8_kindAt_6 : decode cX8_kindAt 6 = .ok (.getfield 9, 3) := dgX8_kindAt_0 (6, (.getfield 9, 3)) (List.mem_of_getElem? (i := 4) rfl)
theorem dX8_kindAt_9 : decode cX8_kindAt 9 = .ok (.arraylength, 1) := dgX8_kindAt_0 (9, (.arraylength, 1)) (List.mem_of_getElem? (i := 5) rfl)
theorem dX8_kindAt_10 : decode cX8_kindAt 10 = .ok (.if_icmp .ge 12, 3) := dgX8_kindAt_0 (10, (.if_icmp .ge 12, 3)) (List.mem_of_getElem? (i := 6) rfl)
theorem dX8_kindAt_13 : decode cX8_kindAt 13 = .ok (.aload_n 0, 1) := dgX8_kindAt_0 (13, (.aload_n 0, 1)) (List.mem_of_getElem? (i := 7) rfl)
theorem dX8_kindAt_14 : decode cX8_kindAt 14 = .ok (.getfield 9, 3) := dgX8_kindAt_0 (14, (.getfield 9, 3)) (List.mem_of_getElem? (i := 8) rfl)
theorem dX8_kindAt_17 : decode cX8_kindAt 17 = .ok (.iload_n 1, 1) := dgX8_kindAt_0 (17, (.iload_n 1, 1)) (List.mem_of_getElem? (i := 9) rfl)
theorem dX8_kindAt_18 : decode cX8_kindAt 18 = .ok (.iaload, 1) := dgX8_kindAt_0 (18, (.iaload, 1)) (List.mem_of_getElem? (i := 10) rfl)
theorem dX8_kindAt_19 : decode cX8_kindAt 19 = .ok (.goto 6, 3) := dgX8_kindAt_0 (19, (.goto 6, 3)) (List.mem_of_getElem? (i := 11) rfl)
theorem dX8_kindAt_22 : decode cX8_kindAt 22 = .ok (.sipush 302, 3) := dgX8_kindAt_0 (22, (.sipush 302, 3)) (List.mem_of_getElem? (i := 12) rfl)
theorem dX8_kindAt_25 : decode cX8_kindAt 25 = .ok (.ireturn, 1) := dgX8_kindAt_0 (25, (.ireturn, 1)) (List.mem_of_getElem? (i := 13) rfl)
theorem inG_X8 : ∀ w ∈ wsX80, w ∈ tblG := tgs [411, 413, 415] (by decide +kernel) (by decide +kernel)
theorem fl_X8_9 : Cond.fieldLink RX8 9 "LateGlass$Tokens" "kinds" "[I" ∈ tblG := tg 405 (by decide +kernel) (by decide +kernel)
set_option maxHeartbeats 4000000 in
set_option maxRecDepth 100000 in
theorem k_kindAt (l : Launch) (G : g5_G) (a_tk a_kd a_nm a_pl : Nat) (sz : Nat) (p_t : Int32) (f_kd : Nat → Int32) (h_p_t : 0 ≤ p_t.toInt ∧ p_t.toInt ≤ 401) : Met l yX8_kindAt (wsG yX8_kindAt cX8_kindAt 2 (some .int)) ({ frames := 0, cells := 0, slots := 0, locals := 0 }) (va_Pc [.ref a_tk, .int p_t] (g5_P G [(a_tk, (oc8 a_kd a_nm a_pl)), (a_kd, (arI G 401 f_kd))] sz)) (va_Qi (fun (r : Int32) (u : va_W) => (∃ (o_r : Int32), (p_t.toInt ≤ 400) ∧ (r = o_r) ∧ (u = [(a_tk, (oc8 a_kd a_nm a_pl)), (a_kd, (arI G 401 f_kd))])) ∨ ((r = 302) ∧ (u = [(a_tk, (oc8 a_kd a_nm a_pl)), (a_kd, (arI G 401 f_kd))]))) (g5_B G (va_A [(a_tk, (oc8 a_kd a_nm a_pl)), (a_kd, (arI G 401 f_kd))] sz)) (va_A [(a_tk, (oc8 a_kd a_nm a_pl)), (a_kd, (arI G 401 f_kd))] sz)) 0 0 (va_A [(a_tk, (oc8 a_kd a_nm a_pl)), (a_kd, (arI G 401 f_kd))] sz) := by
  refine Met.ofW (cc := cX8_kindAt) (maxL := 2) (ret := (some .int)) (by decide) rfl ?_
  intro p e s m args below meth c s₁ B hml hv
  obtain ⟨rfl, hsz, hP, hK, hD0, hN, hT⟩ := hv
  have hx := B.exec
  have hb := B.bytes
  have hr := B.returns
  have hts : ∀ w ∈ tblG, w.before _ s = true := fun w h => atoms_spec (ws := (wsG yX8_kindAt cX8_kindAt 2 (some .int))) B.pre w (List.mem_cons_of_mem _ h)
  have hown : s.vm.findClass RX8 = some m.cls := findClass_of_methodNamed B.named
  have hlocks := B.notSynchronized
  subst hsz
  have hD := hD0.self (sz := s.heap.size)
  generalize hAe : va_A [(a_tk, (oc8 a_kd a_nm a_pl)), (a_kd, (arI G 401 f_kd))] s.heap.size = A at hD hT ⊢
  have hA : ∀ q : Nat, s.heap.size ≤ q → A q := fun q h => by rw [← hAe]; exact Or.inr h
  have hS : va_S A s.heap s.heap [] := va_S.rf
  have hP : va_P G.1 vwCl [(a_tk, (oc8 a_kd a_nm a_pl)), (a_kd, (arI G 401 f_kd))] s.heap := hP
  have hl := lv_entry ([.ref a_tk, .int p_t]) (n := 2) (Nat.le_of_ble_eq_true rfl)
  rw [lg_entry_eq]
  generalize (lg_sl ([.ref a_tk, .int p_t]) ++ List.replicate (2 - (lg_sl ([.ref a_tk, .int p_t])).length) Slot.unset).toArray = ls at hl ⊢
  have hl : lv_has ls 2 [(0, .ref a_tk), (1, .int p_t)] := hl
  refine lv_iload_n hx hb dX8_kindAt_0 rfl (lv_at hl 1 rfl) ?_
  refine lv_if_lt (tgt := 22) hx hb dX8_kindAt_1 (by decide) (fun c_1 => ?_) (fun c_1 => ?_)
  ·
    have i_1 : p_t.toInt < 0 := by have z := g5_lt (a := p_t.toInt) (b := 0) (by rfl) (by decide) c_1; omega
    omega
  ·
    have i_1 : p_t.toInt ≥ 0 := by have z := g5_ltN (a := p_t.toInt) (b := 0) (by rfl) (by decide) c_1; omega
    refine lv_iload_n hx hb dX8_kindAt_4 rfl (lv_at hl 1 rfl) ?_
    refine lv_aload_n hx hb dX8_kindAt_5 rfl (lv_at hl 0 rfl) ?_
    refine va_get (D := G.1) (ci := 8) (v := .ref a_kd) (C := RX8) (T := TX8) (N := 3) hx hb hts inG_X8 hown hK hP 0 rfl rfl 0 (by decide) (hts _ fl_X8_9) (fun _ h9 => h9) rfl dX8_kindAt_6 ?_
    refine va_alen hx hb hK hP 1 0 rfl rfl (v := 401) (by show Int32.ofNat 401 = 401; decide) dX8_kindAt_9 ?_
    refine lv_icmp_ge (tgt := 22) hx hb dX8_kindAt_10 (by decide) (fun c_2 => ?_) (fun c_2 => ?_)
    ·
      have i_2 : p_t.toInt ≥ 401 := by have z := g5_ge (a := p_t.toInt) (b := 401) (by rfl) (by decide) c_2; omega
      refine lv_sipush (v := 302) hx hb dX8_kindAt_22 (by decide) ?_
      exact W.iret (v := 302) hx hb hr (fun t ht hW => ⟨⟨302, [(a_tk, (oc8 a_kd a_nm a_pl)), (a_kd, (arI G 401 f_kd))], rfl, Or.inr (⟨rfl, rfl⟩), by rw [ht]; exact hP.sub [0, 1] rfl, hD.sub [0, 1] (by decide) rfl⟩, hS.F ht⟩) hS.2.2 dX8_kindAt_25
    ·
      have i_2 : p_t.toInt < 401 := by have z := g5_geN (a := p_t.toInt) (b := 401) (by rfl) (by decide) c_2; omega
      refine lv_aload_n hx hb dX8_kindAt_13 rfl (lv_at hl 0 rfl) ?_
      refine va_get (D := G.1) (ci := 8) (v := .ref a_kd) (C := RX8) (T := TX8) (N := 3) hx hb hts inG_X8 hown hK hP 0 rfl rfl 0 (by decide) (hts _ fl_X8_9) (fun _ h9 => h9) rfl dX8_kindAt_14 ?_
      refine lv_iload_n hx hb dX8_kindAt_17 rfl (lv_at hl 1 rfl) ?_
      refine va_iald hx hb hK hP 1 0 rfl rfl (i := p_t) (vp_in_iff.mpr ⟨by omega, by omega⟩) dX8_kindAt_18 ?_
      refine lv_goto (tgt := 25) hx hb dX8_kindAt_19 (by decide) ?_
      exact W.iret (v := (f_kd p_t.toNatClampNeg)) hx hb hr (fun t ht hW => ⟨⟨(f_kd p_t.toNatClampNeg), [(a_tk, (oc8 a_kd a_nm a_pl)), (a_kd, (arI G 401 f_kd))], rfl, Or.inl (⟨(f_kd p_t.toNatClampNeg), by omega, rfl, rfl⟩), by rw [ht]; exact hP.sub [0, 1] rfl, hD.sub [0, 1] (by decide) rfl⟩, hS.F ht⟩) hS.2.2 dX8_kindAt_25
theorem dgX8_cut_0 : ∀ r ∈ ([(0, (.iconst 0, 1)), (1, (.istore_n 3, 1)), (2, (.iconst 0, 1)), (3, (.istore 4, 2)), (5, (.iconst 0, 1)), (6, (.istore 5, 2)), (8, (.iload 5, 2)), (10, (.iload_n 2, 1)), (11, (.if_icmp .ge 90, 3)), (14, (.iload 4, 2)), (16, (.iload_n 2, 1)), (17, (.if_icmp .ge 84, 3)), (20, (.aload_n 1, 1)), (21, (.iload 4, 2)), (23, (.iload_n 2, 1)), (24, (.invokestatic 21, 3)), (27, (.istore 6, 2)), (29, (.aload_n 1, 1)), (30, (.iload 4, 2)), (32, (.iaload, 1)), (33, (.bipush 32, 2)), (35, (.if_icmp .eq 56, 3)), (38, (.aload_n 0, 1)), (39, (.getfield 18, 3)), (42, (.iload_n 3, 1)), (43, (.iload 4, 2)), (45, (.iastore, 1)), (46, (.aload_n 0, 1)), (47, (.getfield 15, 3)), (50, (.iload_n 3, 1)), (51, (.aload_n 1, 1)), (52, (.iload 4, 2)), (54, (.iaload, 1)), (55, (.invokestatic 25, 3)), (58, (.ifCond .eq 14, 3)), (61, (.aload_n 1, 1)), (62, (.iload 4, 2)), (64, (.iload 6, 2)), (66, (.invokestatic 29, 3)), (69, (.goto 4, 3))] : List (Nat × (Instr × Nat))), decode cX8_cut r.1 = .ok r.2 := by decide +kernel
theorem dX8_cut_0 : decode cX8_cut 0 = .ok (.iconst 0, 1) := dgX8_cut_0 (0, (.iconst 0, 1)) (List.mem_of_getElem? (i := 0) rfl)
theorem dX8_cut_1 : decode cX8_cut 1 = .ok (.istore_n 3, 1) := dgX8_cut_0 (1, (.istore_n 3, 1)) (List.mem_of_getElem? (i := 1) rfl)
theorem dX8_cut_2 : decode cX8_cut 2 = .ok (.iconst 0, 1) := dgX8_cut_0 (2, (.iconst 0, 1)) (List.mem_of_getElem? (i := 2) rfl)
theorem dX8_cut_3 : decode cX8_cut 3 = .ok (.istore 4, 2) := dgX8_cut_0 (3, (.istore 4, 2)) (List.mem_of_getElem? (i := 3) rfl)
theorem dX8_cut_5 : decode cX8_cut 5 = .ok (.iconst 0, 1) := dgX8_cut_0 (5, (.iconst 0, 1)) (List.mem_of_getElem? (i := 4) rfl)
theorem dX8_cut_6 : decode cX8_cut 6 = .ok (.istore 5, 2) := dgX8_cut_0 (6, (.istore 5, 2)) (List.mem_of_getElem? (i := 5) rfl)
theorem dX8_cut_8 : decode cX8_cut 8 = .ok (.iload 5, 2) := dgX8_cut_0 (8, (.iload 5, 2)) (List.mem_of_getElem? (i := 6) rfl)
theorem dX8_cut_10 : decode cX8_cut 10 = .ok (.iload_n 2, 1) := dgX8_cut_0 (10, (.iload_n 2, 1)) (List.mem_of_getElem? (i := 7) rfl)
theorem dX8_cut_11 : decode cX8_cut 11 = .ok (.if_icmp .ge 90, 3) := dgX8_cut_0 (11, (.if_icmp .ge 90, 3)) (List.mem_of_getElem? (i := 8) rfl)
theorem dX8_cut_14 : decode cX8_cut 14 = .ok (.iload 4, 2) := dgX8_cut_0 (14, (.iload 4, 2)) (List.mem_of_getElem? (i := 9) rfl)
theorem dX8_cut_16 : decode cX8_cut 16 = .ok (.iload_n 2, 1) := dgX8_cut_0 (16, (.iload_n 2, 1)) (List.mem_of_getElem? (i := 10) rfl)
theorem dX8_cut_17 : decode cX8_cut 17 = .ok (.if_icmp .ge 84, 3) := dgX8_cut_0 (17, (.if_icmp .ge 84, 3)) (List.mem_of_getElem? (i := 11) rfl)
theorem dX8_cut_20 : decode cX8_cut 20 = .ok (.aload_n 1, 1) := dgX8_cut_0 (20, (.aload_n 1, 1)) (List.mem_of_getElem? (i := 12) rfl)
theorem dX8_cut_21 : decode cX8_cut 21 = .ok (.iload 4, 2) := dgX8_cut_0 (21, (.iload 4, 2)) (List.mem_of_getElem? (i := 13) rfl)
theorem dX8_cut_23 : decode cX8_cut 23 = .ok (.iload_n 2, 1) := dgX8_cut_0 (23, (.iload_n 2, 1)) (List.mem_of_getElem? (i := 14) rfl)
theorem dX8_cut_24 : decode cX8_cut 24 = .ok (.invokestatic 21, 3) := dgX8_cut_0 (24, (.invokestatic 21, 3)) (List.mem_of_getElem? (i := 15) rfl)
theorem dX8_cut_27 : decode cX8_cut 27 = .ok (.istore 6, 2) := dgX8_cut_0 (27, (.istore 6, 2)) (List.mem_of_getElem? (i := 16) rfl)
theorem dX8_cut_29 : decode cX8_cut 29 = .ok (.aload_n 1, 1) := dgX8_cut_0 (29, (.aload_n 1, 1)) (List.mem_of_getElem? (i := 17) rfl)
theorem dX8_cut_30 : decode cX8_cut 30 = .ok (.iload 4, 2) := dgX8_cut_0 (30, (.iload 4, 2)) (List.mem_of_getElem? (i := 18) rfl)
theorem dX8_cut_32 : decode cX8_cut 32 = .ok (.iaload, 1) := dgX8_cut_0 (32, (.iaload, 1)) (List.mem_of_getElem? (i := 19) rfl)
theorem dX8_cut_33 : decode cX8_cut 33 = .ok (.bipush 32, 2) := dgX8_cut_0 (33, (.bipush 32, 2)) (List.mem_of_getElem? (i := 20) rfl)
theorem dX8_cut_35 : decode cX8_cut 35 = .ok (.if_icmp .eq 56, 3) := dgX8_cut_0 (35, (.if_icmp .eq 56, 3)) (List.mem_of_getElem? (i := 21) rfl)
theorem dX8_cut_38 : decode cX8_cut 38 = .ok (.aload_n 0, 1) := dgX8_cut_0 (38, (.aload_n 0, 1)) (List.mem_of_getElem? (i := 22) rfl)
theorem dX8_cut_39 : decode cX8_cut 39 = .ok (.getfield 18, 3) := dgX8_cut_0 (39, (.getfield 18, 3)) (List.mem_of_getElem? (i := 23) rfl)
theorem dX8_cut_42 : decode cX8_cut 42 = .ok (.iload_n 3, 1) := dgX8_cut_0 (42, (.iload_n 3, 1)) (List.mem_of_getElem? (i := 24) rfl)
theorem dX8_cut_43 : decode cX8_cut 43 = .ok (.iload 4, 2) := dgX8_cut_0 (43, (.iload 4, 2)) (List.mem_of_getElem? (i := 25) rfl)
theorem dX8_cut_45 : decode cX8_cut 45 = .ok (.iastore, 1) := dgX8_cut_0 (45, (.iastore, 1)) (List.mem_of_getElem? (i := 26) rfl)
theorem dX8_cut_46 : decode cX8_cut 46 = .ok (.aload_n 0, 1) := dgX8_cut_0 (46, (.aload_n 0, 1)) (List.mem_of_getElem? (i := 27) rfl)
theorem dX8_cut_47 : decode cX8_cut 47 = .ok (.getfield 15, 3) := dgX8_cut_0 (47, (.getfield 15, 3)) (List.mem_of_getElem? (i := 28) rfl)
theorem dX8_cut_50 : decode cX8_cut 50 = .ok (.iload_n 3, 1) := dgX8_cut_0 (50, (.iload_n 3, 1)) (List.mem_of_getElem? (i := 29) rfl)
theorem dX8_cut_51 : decode cX8_cut 51 = .ok (.aload_n 1, 1) := dgX8_cut_0 (51, (.aload_n 1, 1)) (List.mem_of_getElem? (i := 30) rfl)
theorem dX8_cut_52 : decode cX8_cut 52 = .ok (.iload 4, 2) := dgX8_cut_0 (52, (.iload 4, 2)) (List.mem_of_getElem? (i := 31) rfl)
theorem dX8_cut_54 : decode cX8_cut 54 = .ok (.iaload, 1) := dgX8_cut_0 (54, (.iaload, 1)) (List.mem_of_getElem? (i := 32) rfl)
theorem dX8_cut_55 : decode cX8_cut 55 = .ok (.invokestatic 25, 3) := dgX8_cut_0 (55, (.invokestatic 25, 3)) (List.mem_of_getElem? (i := 33) rfl)
theorem dX8_cut_58 : decode cX8_cut 58 = .ok (.ifCond .eq 14, 3) := dgX8_cut_0 (58, (.ifCond .eq 14, 3)) (List.mem_of_getElem? (i := 34) rfl)
theorem dX8_cut_61 : decode cX8_cut 61 = .ok (.aload_n 1, 1) := dgX8_cut_0 (61, (.aload_n 1, 1)) (List.mem_of_getElem? (i := 35) rfl)
theorem dX8_cut_62 : decode cX8_cut 62 = .ok (.iload 4, 2) := dgX8_cut_0 (62, (.iload 4, 2)) (List.mem_of_getElem? (i := 36) rfl)
theorem dX8_cut_64 : decode cX8_cut 64 = .ok (.iload 6, 2) := dgX8_cut_0 (64, (.iload 6, 2)) (List.mem_of_getElem? (i := 37) rfl)
theorem dX8_cut_66 : decode cX8_cut 66 = .ok (.invokestatic 29, 3) := dgX8_cut_0 (66, (.invokestatic 29, 3)) (List.mem_of_getElem? (i := 38) rfl)
theorem dX8_cut_69 : decode cX8_cut 69 = .ok (.goto 4, 3) := dgX8_cut_0 (69, (.goto 4, 3)) (List.mem_of_getElem? (i := 39) rfl)
theorem dgX8_cut_1 : ∀ r ∈ ([(72, (.iconst 0, 1)), (73, (.iastore, 1)), (74, (.aload_n 0, 1)), (75, (.getfield 9, 3)), (78, (.iload_n 3, 1)), (79, (.aload_n 1, 1)), (80, (.iload 4, 2)), (82, (.iload 6, 2)), (84, (.invokestatic 32, 3)), (87, (.iastore, 1)), (88, (.iinc 3 1, 3)), (91, (.iload 6, 2)), (93, (.istore 4, 2)), (95, (.iinc 5 1, 3)), (98, (.goto (-90), 3)), (101, (.aload_n 0, 1)), (102, (.getfield 18, 3)), (105, (.iload_n 3, 1)), (106, (.iload_n 2, 1)), (107, (.iastore, 1)), (108, (.aload_n 0, 1)), (109, (.getfield 9, 3)), (112, (.iload_n 3, 1)), (113, (.sipush 302, 3)), (116, (.iastore, 1)), (117, (.return_, 1))] : List (Nat × (Instr × Nat))), decode cX8_cut r.1 = .ok r.2 := by decide +kernel
theorem dX8_cut_72 : decode cX8_cut 72 = .ok (.iconst 0, 1) := dgX8_cut_1 (72, (.iconst 0, 1)) (List.mem_of_getElem? (i := 0) rfl)
theorem dX8_cut_73 : decode cX8_cut 73 = .ok (.iastore, 1) := dgX8_cut_1 (73, (.iastore, 1)) (List.mem_of_getElem? (i := 1) rfl)
theorem dX8_cut_74 : decode cX8_cut 74 = .ok (.aload_n 0, 1) := dgX8_cut_1 (74, (.aload_n 0, 1)) (List.mem_of_getElem? (i := 2) rfl)
theorem dX8_cut_75 : decode cX8_cut 75 = .ok (.getfield 9, 3) := dgX8_cut_1 (75, (.getfield 9, 3)) (List.mem_of_getElem? (i := 3) rfl)
theorem dX8_cut_78 : decode cX8_cut 78 = .ok (.iload_n 3, 1) := dgX8_cut_1 (78, (.iload_n 3, 1)) (List.mem_of_getElem? (i := 4) rfl)
theorem dX8_cut_79 : decode cX8_cut 79 = .ok (.aload_n 1, 1) := dgX8_cut_1 (79, (.aload_n 1, 1)) (List.mem_of_getElem? (i := 5) rfl)
theorem dX8_cut_80 : decode cX8_cut 80 = .ok (.iload 4, 2) := dgX8_cut_1 (80, (.iload 4, 2)) (List.mem_of_getElem? (i := 6) rfl)
theorem dX8_cut_82 : decode cX8_cut 82 = .ok (.iload 6, 2) := dgX8_cut_1 (82, (.iload 6, 2)) (List.mem_of_getElem? (i := 7) rfl)
theorem dX8_cut_84 : decode cX8_cut 84 = .ok (.invokestatic 32, 3) := dgX8_cut_1 (84, (.invokestatic 32, 3)) (List.mem_of_getElem? (i := 8) rfl)
theorem dX8_cut_87 : decode cX8_cut 87 = .ok (.iastore, 1) := dgX8_cut_1 (87, (.iastore, 1)) (List.mem_of_getElem? (i := 9) rfl)
theorem dX8_cut_88 : decode cX8_cut 88 = .ok (.iinc 3 1, 3) := dgX8_cut_1 (88, (.iinc 3 1, 3)) (List.mem_of_getElem? (i := 10) rfl)
theorem dX8_cut_91 : decode cX8_cut 91 = .ok (.iload 6, 2) := dgX8_cut_1 (91, (.iload 6, 2)) (List.mem_of_getElem? (i := 11) rfl)
theorem dX8_cut_93 : decode cX8_cut 93 = .ok (.istore 4, 2) := dgX8_cut_1 (93, (.istore 4, 2)) (List.mem_of_getElem? (i := 12) rfl)
theorem dX8_cut_95 : decode cX8_cut 95 = .ok (.iinc 5 1, 3) := dgX8_cut_1 (95, (.iinc 5 1, 3)) (List.mem_of_getElem? (i := 13) rfl)
theorem dX8_cut_98 : decode cX8_cut 98 = .ok (.goto (-90), 3) := dgX8_cut_1 (98, (.goto (-90), 3)) (List.mem_of_getElem? (i := 14) rfl)
theorem dX8_cut_101 : decode cX8_cut 101 = .ok (.aload_n 0, 1) := dgX8_cut_1 (101, (.aload_n 0, 1)) (List.mem_of_getElem? (i := 15) rfl)
theorem dX8_cut_102 : decode cX8_cut 102 = .ok (.getfield 18, 3) := dgX8_cut_1 (102, (.getfield 18, 3)) (List.mem_of_getElem? (i := 16) rfl)
theorem dX8_cut_105 : decode cX8_cut 105 = .ok (.iload_n 3, 1) := dgX8_cut_1 (105, (.iload_n 3, 1)) (List.mem_of_getElem? (i := 17) rfl)
theorem dX8_cut_106 : decode cX8_cut 106 = .ok (.iload_n 2, 1) := dgX8_cut_1 (106, (.iload_n 2, 1)) (List.mem_of_getElem? (i := 18) rfl)
theorem dX8_cut_107 : decode cX8_cut 107 = .ok (.iastore, 1) := dgX8_cut_1 (107, (.iastore, 1)) (List.mem_of_getElem? (i := 19) rfl)
theorem dX8_cut_108 : decode cX8_cut 108 = .ok (.aload_n 0, 1) := dgX8_cut_1 (108, (.aload_n 0, 1)) (List.mem_of_getElem? (i := 20) rfl)
theorem dX8_cut_109 : decode cX8_cut 109 = .ok (.getfield 9, 3) := dgX8_cut_1 (109, (.getfield 9, 3)) (List.mem_of_getElem? (i := 21) rfl)
theorem dX8_cut_112 : decode cX8_cut 112 = .ok (.iload_n 3, 1) := dgX8_cut_1 (112, (.iload_n 3, 1)) (List.mem_of_getElem? (i := 22) rfl)
theorem dX8_cut_113 : decode cX8_cut 113 = .ok (.sipush 302, 3) := dgX8_cut_1 (113, (.sipush 302, 3)) (List.mem_of_getElem? (i := 23) rfl)
theorem dX8_cut_116 : decode cX8_cut 116 = .ok (.iastore, 1) := dgX8_cut_1 (116, (.iastore, 1)) (List.mem_of_getElem? (i := 24) rfl)
theorem dX8_cut_117 : decode cX8_cut 117 = .ok (.return_, 1) := dgX8_cut_1 (117, (.return_, 1)) (List.mem_of_getElem? (i := 25) rfl)
theorem fl_X8_18 : Cond.fieldLink RX8 18 "LateGlass$Tokens" "places" "[I" ∈ tblG := tg 409 (by decide +kernel) (by decide +kernel)
theorem ml_X8_21 : Cond.methodLink RX8 21 yX8_endOf ∈ tblG := tg 649 (by decide +kernel) (by decide +kernel)
theorem st_X8_endOf : Cond.static yX8_endOf ∈ tblG := tg 650 (by decide +kernel) (by decide +kernel)
theorem cd_X8_endOf : Cond.code yX8_endOf cX8_endOf 4 (some .int) ∈ tblG := tg 651 (by decide +kernel) (by decide +kernel)
theorem gW_X8_endOf : GoodIn tblG (wsG yX8_endOf cX8_endOf 4 (some .int)) := tgi cd_X8_endOf
theorem gS_X8_21 : GoodIn tblG (va_wsS RX8 21 yX8_endOf (wsG yX8_endOf cX8_endOf 4 (some .int))) := tgS ml_X8_21 st_X8_endOf ini_X8 gW_X8_endOf
theorem hs_X8_endOf : yX8_endOf.cls ≠ "java/lang/invoke/MethodHandle" ∧ yX8_endOf.cls ≠ "java/lang/invoke/VarHandle" ∧ (parseMethodDescriptor yX8_endOf.desc).map (fun d => d.parameters.length) = some 3 := by decide +kernel
theorem fl_X8_15 : Cond.fieldLink RX8 15 "LateGlass$Tokens" "numbers" "[I" ∈ tblG := tg 407 (by decide +kernel) (by decide +kernel)
theorem ml_X8_32 : Cond.methodLink RX8 32 yX8_kindOf ∈ tblG := tg 661 (by decide +kernel) (by decide +kernel)
theorem st_X8_kindOf : Cond.static yX8_kindOf ∈ tblG := tg 662 (by decide +kernel) (by decide +kernel)
theorem cd_X8_kindOf : Cond.code yX8_kindOf cX8_kindOf 4 (some .int) ∈ tblG := tg 663 (by decide +kernel) (by decide +kernel)
theorem gW_X8_kindOf : GoodIn tblG (wsG yX8_kindOf cX8_kindOf 4 (some .int)) := tgi cd_X8_kindOf
theorem gS_X8_32 : GoodIn tblG (va_wsS RX8 32 yX8_kindOf (wsG yX8_kindOf cX8_kindOf 4 (some .int))) := tgS ml_X8_32 st_X8_kindOf ini_X8 gW_X8_kindOf
theorem hs_X8_kindOf : yX8_kindOf.cls ≠ "java/lang/invoke/MethodHandle" ∧ yX8_kindOf.cls ≠ "java/lang/invoke/VarHandle" ∧ (parseMethodDescriptor yX8_kindOf.desc).map (fun d => d.parameters.length) = some 3 := by decide +kernel
set_option maxHeartbeats 4000000 in
set_option maxRecDepth 100000 in
theorem k_cut (l : Launch) (G : g5_G) (a_tk a_kd a_nm a_pl a_x : Nat) (sz : Nat) (p_n : Int32) (f_kd : Nat → Int32) (f_nm : Nat → Int32) (f_pl : Nat → Int32) (f_x : Nat → Int32) (h_p_n : 0 ≤ p_n.toInt ∧ p_n.toInt ≤ 400) (e_tk : TOKI f_kd f_nm) : Met l yX8_cut (wsG yX8_cut cX8_cut 7 none) ({ frames := 6, cells := 0, slots := 0, locals := 135 }) (va_Pc [.ref a_tk, .ref a_x, .int p_n] (g5_P G [(a_tk, (oc8 a_kd a_nm a_pl)), (a_kd, (arI G 401 f_kd)), (a_nm, (arI G 401 f_nm)), (a_pl, (arI G 401 f_pl)), (a_x, (arI G 400 f_x))] sz)) (va_Qv (fun (u : va_W) => (∃ (o_kd : Nat → Int32) (o_nm : Nat → Int32) (o_pl : Nat → Int32), (TOKI o_kd o_nm) ∧ (u = [(a_tk, (oc8 a_kd a_nm a_pl)), (a_kd, (arI G 401 o_kd)), (a_nm, (arI G 401 o_nm)), (a_pl, (arI G 401 o_pl)), (a_x, (arI G 400 f_x))]))) (g5_B G (va_A [(a_tk, (oc8 a_kd a_nm a_pl)), (a_kd, (arI G 401 f_kd)), (a_nm, (arI G 401 f_nm)), (a_pl, (arI G 401 f_pl)), (a_x, (arI G 400 f_x))] sz)) (va_A [(a_tk, (oc8 a_kd a_nm a_pl)), (a_kd, (arI G 401 f_kd)), (a_nm, (arI G 401 f_nm)), (a_pl, (arI G 401 f_pl)), (a_x, (arI G 400 f_x))] sz)) 0 0 (va_A [(a_tk, (oc8 a_kd a_nm a_pl)), (a_kd, (arI G 401 f_kd)), (a_nm, (arI G 401 f_nm)), (a_pl, (arI G 401 f_pl)), (a_x, (arI G 400 f_x))] sz) := by
  refine Met.ofW (cc := cX8_cut) (maxL := 7) (ret := none) (by decide) rfl ?_
  intro p e s m args below meth c s₁ B hml hv
  obtain ⟨rfl, hsz, hP, hK, hD0, hN, hT⟩ := hv
  have hx := B.exec
  have hb := B.bytes
  have hr := B.returns
  have hts : ∀ w ∈ tblG, w.before _ s = true := fun w h => atoms_spec (ws := (wsG yX8_cut cX8_cut 7 none)) B.pre w (List.mem_cons_of_mem _ h)
  have hown : s.vm.findClass RX8 = some m.cls := findClass_of_methodNamed B.named
  have hlocks := B.notSynchronized
  subst hsz
  have hD := hD0.self (sz := s.heap.size)
  generalize hAe : va_A [(a_tk, (oc8 a_kd a_nm a_pl)), (a_kd, (arI G 401 f_kd)), (a_nm, (arI G 401 f_nm)), (a_pl, (arI G 401 f_pl)), (a_x, (arI G 400 f_x))] s.heap.size = A at hD hT ⊢
  have hA : ∀ q : Nat, s.heap.size ≤ q → A q := fun q h => by rw [← hAe]; exact Or.inr h
  have hS : va_S A s.heap s.heap [] := va_S.rf
  have hP : va_P G.1 vwCl [(a_tk, (oc8 a_kd a_nm a_pl)), (a_kd, (arI G 401 f_kd)), (a_nm, (arI G 401 f_nm)), (a_pl, (arI G 401 f_pl)), (a_x, (arI G 400 f_x))] s.heap := hP
  have hl := lv_entry ([.ref a_tk, .ref a_x, .int p_n]) (n := 7) (Nat.le_of_ble_eq_true rfl)
  rw [lg_entry_eq]
  generalize (lg_sl ([.ref a_tk, .ref a_x, .int p_n]) ++ List.replicate (7 - (lg_sl ([.ref a_tk, .ref a_x, .int p_n])).length) Slot.unset).toArray = ls at hl ⊢
  have hl : lv_has ls 7 [(0, .ref a_tk), (1, .ref a_x), (2, .int p_n)] := hl
  refine lv_iconst (v := 0) hx hb dX8_cut_0 (by decide) ?_
  refine lv_istore_n (lv' := [(3, .int 0), (0, .ref a_tk), (1, .ref a_x), (2, .int p_n)]) hx hb dX8_cut_1 rfl hl (by decide) rfl (fun ls hl => ?_)
  refine lv_iconst (v := 0) hx hb dX8_cut_2 (by decide) ?_
  refine lv_istore (lv' := [(4, .int 0), (3, .int 0), (0, .ref a_tk), (1, .ref a_x), (2, .int p_n)]) hx hb dX8_cut_3 hl (by decide) rfl (fun ls hl => ?_)
  refine lv_iconst (v := 0) hx hb dX8_cut_5 (by decide) ?_
  refine lv_istore (lv' := [(5, .int 0), (4, .int 0), (3, .int 0), (0, .ref a_tk), (1, .ref a_x), (2, .int p_n)]) hx hb dX8_cut_6 hl (by decide) rfl (fun ls hl => ?_)
  refine g5_loop (α := (Int32) × (Int32) × (Int32) × (Nat → Int32) × (Nat → Int32) × (Nat → Int32)) (fun (q : (Int32) × (Int32) × (Int32) × (Nat → Int32) × (Nat → Int32) × (Nat → Int32)) (ls : Array Slot) (H : Heap) (locs : List Loc) => match q with | (k_t, k_a, k_i, k_kd, k_nm, k_pl) => lv_has ls 7 [(3, .int k_t), (4, .int k_a), (5, .int k_i), (0, .ref a_tk), (1, .ref a_x), (2, .int p_n)] ∧ va_P G.1 vwCl [(a_tk, (oc8 a_kd a_nm a_pl)), (a_kd, (arI G 401 k_kd)), (a_nm, (arI G 401 k_nm)), (a_pl, (arI G 401 k_pl)), (a_x, (arI G 400 f_x))] H ∧ va_D A [(a_tk, (oc8 a_kd a_nm a_pl)), (a_kd, (arI G 401 k_kd)), (a_nm, (arI G 401 k_nm)), (a_pl, (arI G 401 k_pl)), (a_x, (arI G 400 f_x))] ∧ va_S A s.heap H locs ∧ (0 ≤ k_t.toInt ∧ k_t.toInt ≤ 400) ∧ (0 ≤ k_a.toInt ∧ k_a.toInt ≤ 400) ∧ (0 ≤ k_i.toInt ∧ k_i.toInt ≤ 400) ∧ (k_t.toInt ≤ k_i.toInt) ∧ (TOKI k_kd k_nm)) (fun (q : (Int32) × (Int32) × (Int32) × (Nat → Int32) × (Nat → Int32) × (Nat → Int32)) => match q with | (k_t, k_a, k_i, k_kd, k_nm, k_pl) => Int.toNat (400 - k_i.toInt)) (0, 0, 0, f_kd, f_nm, f_pl) ⟨lv_sub hl [2, 1, 0, 3, 4, 5] rfl, hP, hD, hS, ⟨by decide, by decide⟩, ⟨by decide, by decide⟩, ⟨by decide, by decide⟩, Int.le_refl _, e_tk⟩ ?_
  rintro ⟨k_t, k_a, k_i, k_kd, k_nm, k_pl⟩ ls H locs ⟨hl, hP, hD, hS, i_1, i_2, i_3, i_4, i_5⟩ ih_8_6
  have hl : lv_has ls 7 [(3, .int k_t), (4, .int k_a), (5, .int k_i), (0, .ref a_tk), (1, .ref a_x), (2, .int p_n)] := hl
  have i_1 : 0 ≤ k_t.toInt ∧ k_t.toInt ≤ 400 := i_1
  have i_2 : 0 ≤ k_a.toInt ∧ k_a.toInt ≤ 400 := i_2
  have i_3 : 0 ≤ k_i.toInt ∧ k_i.toInt ≤ 400 := i_3
  have i_4 : k_t.toInt ≤ k_i.toInt := i_4
  have i_5 : TOKI k_kd k_nm := i_5
  refine g5_rs [(a_tk, (oc8 a_kd a_nm a_pl)), (a_kd, (arI G 401 k_kd)), (a_nm, (arI G 401 k_nm)), (a_pl, (arI G 401 k_pl)), (a_x, (arI G 400 f_x))] hP hD (fun hP hD => ?_)
  refine lv_iload hx hb dX8_cut_8 (lv_at hl 2 rfl) ?_
  refine lv_iload_n hx hb dX8_cut_10 rfl (lv_at hl 5 rfl) ?_
  refine lv_icmp_ge (tgt := 101) hx hb dX8_cut_11 (by decide) (fun c_7 => ?_) (fun c_7 => ?_)
  ·
    have i_7 : k_i.toInt ≥ p_n.toInt := by have z := g5_ge (a := k_i.toInt) (b := p_n.toInt) (by rfl) (by rfl) c_7; omega
    refine lv_aload_n hx hb dX8_cut_101 rfl (lv_at hl 3 rfl) ?_
    refine va_get (D := G.1) (ci := 8) (v := .ref a_pl) (C := RX8) (T := TX8) (N := 3) hx hb hts inG_X8 hown hK hP 0 rfl rfl 2 (by decide) (hts _ fl_X8_18) (fun _ h9 => h9) rfl dX8_cut_102 ?_
    refine lv_iload_n hx hb dX8_cut_105 rfl (lv_at hl 0 rfl) ?_
    refine lv_iload_n hx hb dX8_cut_106 rfl (lv_at hl 5 rfl) ?_
    refine va_iast hx hb hK hP hD hS 3 0 rfl rfl (i := k_t) (x := p_n) (vp_in_iff.mpr ⟨by omega, by omega⟩) dX8_cut_107 (fun H locs hP hD hS => ?_)
    refine g5_rs [(a_tk, (oc8 a_kd a_nm a_pl)), (a_kd, (arI G 401 k_kd)), (a_nm, (arI G 401 k_nm)), (a_pl, (arI G 401 (upd k_pl k_t.toNatClampNeg p_n))), (a_x, (arI G 400 f_x))] hP hD (fun hP hD => ?_)
    refine lv_aload_n hx hb dX8_cut_108 rfl (lv_at hl 3 rfl) ?_
    refine va_get (D := G.1) (ci := 8) (v := .ref a_kd) (C := RX8) (T := TX8) (N := 3) hx hb hts inG_X8 hown hK hP 0 rfl rfl 0 (by decide) (hts _ fl_X8_9) (fun _ h9 => h9) rfl dX8_cut_109 ?_
    refine lv_iload_n hx hb dX8_cut_112 rfl (lv_at hl 0 rfl) ?_
    refine lv_sipush (v := 302) hx hb dX8_cut_113 (by decide) ?_
    refine va_iast hx hb hK hP hD hS 1 0 rfl rfl (i := k_t) (x := 302) (vp_in_iff.mpr ⟨by omega, by omega⟩) dX8_cut_116 (fun H locs hP hD hS => ?_)
    refine g5_rs [(a_tk, (oc8 a_kd a_nm a_pl)), (a_kd, (arI G 401 (upd k_kd k_t.toNatClampNeg 302))), (a_nm, (arI G 401 k_nm)), (a_pl, (arI G 401 (upd k_pl k_t.toNatClampNeg p_n))), (a_x, (arI G 400 f_x))] hP hD (fun hP hD => ?_)
    exact W.vret hx hb hr (fun t ht hW => ⟨⟨[(a_tk, (oc8 a_kd a_nm a_pl)), (a_kd, (arI G 401 (upd k_kd k_t.toNatClampNeg 302))), (a_nm, (arI G 401 k_nm)), (a_pl, (arI G 401 (upd k_pl k_t.toNatClampNeg p_n))), (a_x, (arI G 400 f_x))], rfl, ⟨(upd k_kd k_t.toNatClampNeg 302), k_nm, (upd k_pl k_t.toNatClampNeg p_n), tok_end i_5, rfl⟩, by rw [ht]; exact hP.sub [0, 1, 2, 3, 4] rfl, hD.sub [0, 1, 2, 3, 4] (by decide) rfl⟩, hS.F ht⟩) hS.2.2 dX8_cut_117
  ·
    have i_7 : k_i.toInt < p_n.toInt := by have z := g5_geN (a := k_i.toInt) (b := p_n.toInt) (by rfl) (by rfl) c_7; omega
    refine lv_iload hx hb dX8_cut_14 (lv_at hl 1 rfl) ?_
    refine lv_iload_n hx hb dX8_cut_16 rfl (lv_at hl 5 rfl) ?_
    refine lv_icmp_ge (tgt := 101) hx hb dX8_cut_17 (by decide) (fun c_8 => ?_) (fun c_8 => ?_)
    ·
      have i_8 : k_a.toInt ≥ p_n.toInt := by have z := g5_ge (a := k_a.toInt) (b := p_n.toInt) (by rfl) (by rfl) c_8; omega
      refine lv_aload_n hx hb dX8_cut_101 rfl (lv_at hl 3 rfl) ?_
      refine va_get (D := G.1) (ci := 8) (v := .ref a_pl) (C := RX8) (T := TX8) (N := 3) hx hb hts inG_X8 hown hK hP 0 rfl rfl 2 (by decide) (hts _ fl_X8_18) (fun _ h9 => h9) rfl dX8_cut_102 ?_
      refine lv_iload_n hx hb dX8_cut_105 rfl (lv_at hl 0 rfl) ?_
      refine lv_iload_n hx hb dX8_cut_106 rfl (lv_at hl 5 rfl) ?_
      refine va_iast hx hb hK hP hD hS 3 0 rfl rfl (i := k_t) (x := p_n) (vp_in_iff.mpr ⟨by omega, by omega⟩) dX8_cut_107 (fun H locs hP hD hS => ?_)
      refine g5_rs [(a_tk, (oc8 a_kd a_nm a_pl)), (a_kd, (arI G 401 k_kd)), (a_nm, (arI G 401 k_nm)), (a_pl, (arI G 401 (upd k_pl k_t.toNatClampNeg p_n))), (a_x, (arI G 400 f_x))] hP hD (fun hP hD => ?_)
      refine lv_aload_n hx hb dX8_cut_108 rfl (lv_at hl 3 rfl) ?_
      refine va_get (D := G.1) (ci := 8) (v := .ref a_kd) (C := RX8) (T := TX8) (N := 3) hx hb hts inG_X8 hown hK hP 0 rfl rfl 0 (by decide) (hts _ fl_X8_9) (fun _ h9 => h9) rfl dX8_cut_109 ?_
      refine lv_iload_n hx hb dX8_cut_112 rfl (lv_at hl 0 rfl) ?_
      refine lv_sipush (v := 302) hx hb dX8_cut_113 (by decide) ?_
      refine va_iast hx hb hK hP hD hS 1 0 rfl rfl (i := k_t) (x := 302) (vp_in_iff.mpr ⟨by omega, by omega⟩) dX8_cut_116 (fun H locs hP hD hS => ?_)
      refine g5_rs [(a_tk, (oc8 a_kd a_nm a_pl)), (a_kd, (arI G 401 (upd k_kd k_t.toNatClampNeg 302))), (a_nm, (arI G 401 k_nm)), (a_pl, (arI G 401 (upd k_pl k_t.toNatClampNeg p_n))), (a_x, (arI G 400 f_x))] hP hD (fun hP hD => ?_)
      exact W.vret hx hb hr (fun t ht hW => ⟨⟨[(a_tk, (oc8 a_kd a_nm a_pl)), (a_kd, (arI G 401 (upd k_kd k_t.toNatClampNeg 302))), (a_nm, (arI G 401 k_nm)), (a_pl, (arI G 401 (upd k_pl k_t.toNatClampNeg p_n))), (a_x, (arI G 400 f_x))], rfl, ⟨(upd k_kd k_t.toNatClampNeg 302), k_nm, (upd k_pl k_t.toNatClampNeg p_n), tok_end i_5, rfl⟩, by rw [ht]; exact hP.sub [0, 1, 2, 3, 4] rfl, hD.sub [0, 1, 2, 3, 4] (by decide) rfl⟩, hS.F ht⟩) hS.2.2 dX8_cut_117
    ·
      have i_8 : k_a.toInt < p_n.toInt := by have z := g5_geN (a := k_a.toInt) (b := p_n.toInt) (by rfl) (by rfl) c_8; omega
      refine lv_aload_n hx hb dX8_cut_20 rfl (lv_at hl 4 rfl) ?_
      refine lv_iload hx hb dX8_cut_21 (lv_at hl 1 rfl) ?_
      refine lv_iload_n hx hb dX8_cut_23 rfl (lv_at hl 5 rfl) ?_
      obtain ⟨hPc, hDc, hFc⟩ := g5_sub3 (wc := [(a_x, (arI G 400 f_x))]) hP hD hS hA [4] (by decide) rfl
      refine va_calli (va_runS (As := [.ref a_x, .int k_a, .int p_n]) (rest := []) ⟨hx, hb, hml, hown, hts⟩ (k_endOf l G a_x H.size k_a p_n f_x ⟨by omega, by omega⟩ h_p_n (by omega)) (va_cwS 3 hts gS_X8_21 rfl rfl rfl hs_X8_endOf ⟨Nat.le_of_ble_eq_true rfl, Nat.le_of_ble_eq_true rfl⟩) (g5_preS hPc hK hDc hN hT hS hFc) rfl rfl hl.1 rfl (lv_room (Nat.le_of_ble_eq_true rfl)) dX8_cut_24 ⟨Nat.le_of_ble_eq_true rfl, Nat.le_of_ble_eq_true rfl⟩) hS (fun q _ h => hFc q h) hFc (fun r u t H1 locs ht hvm hw hB hz1 hk1 hS => ?_)
      obtain ⟨hP1, hD1⟩ := hB
      rw [ht] at hP1
      obtain ⟨z10, i_9, y11, rfl⟩ := hw
      have i_9 : k_a.toInt < z10.toInt ∧ z10.toInt ≤ p_n.toInt := i_9
      obtain ⟨hP, hD⟩ := va_join (wr := [(a_tk, (oc8 a_kd a_nm a_pl)), (a_kd, (arI G 401 k_kd)), (a_nm, (arI G 401 k_nm)), (a_pl, (arI G 401 k_pl))]) hP hD [4] [0, 1, 2, 3] rfl rfl (by decide) (by decide) hk1 hFc hP1 hD1
      generalize H1 = H at hP hS ⊢
      refine g5_rs [(a_tk, (oc8 a_kd a_nm a_pl)), (a_kd, (arI G 401 k_kd)), (a_nm, (arI G 401 k_nm)), (a_pl, (arI G 401 k_pl)), (a_x, (arI G 400 f_x))] hP hD (fun hP hD => ?_)
      refine g5_ti (v := z10) y11 ?_
      refine lv_istore (lv' := [(6, .int z10), (3, .int k_t), (4, .int k_a), (5, .int k_i), (0, .ref a_tk), (1, .ref a_x), (2, .int p_n)]) hx hb dX8_cut_27 hl (by decide) rfl (fun ls hl => ?_)
      refine lv_aload_n hx hb dX8_cut_29 rfl (lv_at hl 5 rfl) ?_
      refine lv_iload hx hb dX8_cut_30 (lv_at hl 2 rfl) ?_
      refine va_iald hx hb hK hP 4 0 rfl rfl (i := k_a) (vp_in_iff.mpr ⟨by omega, by omega⟩) dX8_cut_32 ?_
      refine lv_bipush (v := 32) hx hb dX8_cut_33 (by decide) ?_
      refine lv_icmp_eq (tgt := 91) hx hb dX8_cut_35 (by decide) (fun c_12 => ?_) (fun c_12 => ?_)
      ·
        have i_12 : (f_x k_a.toNatClampNeg).toInt = 32 := by have z := g5_eq (a := (f_x k_a.toNatClampNeg).toInt) (b := 32) (by rfl) (by decide) c_12; omega
        refine lv_iload hx hb dX8_cut_91 (lv_at hl 0 rfl) ?_
        refine lv_istore (lv' := [(4, .int z10), (6, .int z10), (3, .int k_t), (5, .int k_i), (0, .ref a_tk), (1, .ref a_x), (2, .int p_n)]) hx hb dX8_cut_93 hl (by decide) rfl (fun ls hl => ?_)
        refine lv_iinc (v := (k_i + 1)) (lv' := [(5, .int (k_i + 1)), (4, .int z10), (6, .int z10), (3, .int k_t), (0, .ref a_tk), (1, .ref a_x), (2, .int p_n)]) hx hb dX8_cut_95 hl (k := 3) rfl rfl (by decide) rfl (fun ls hl => ?_)
        have t_13 : (k_i + 1).toInt = k_i.toInt + 1 := g5_iadd (a := k_i.toInt) (b := 1) rfl (by decide) (by omega) (by omega)
        refine lv_goto (tgt := 8) hx hb dX8_cut_98 (by decide) ?_
        exact ih_8_6 (k_t, z10, (k_i + 1), k_kd, k_nm, k_pl) ls H locs (show Int.toNat (400 - (k_i + 1).toInt) < Int.toNat (400 - k_i.toInt) from g_up (show k_i.toInt < (k_i + 1).toInt by omega) (show k_i.toInt < 400 by omega)) ⟨lv_sub hl [3, 1, 0, 4, 5, 6] rfl, hP, hD, hS, i_1, ⟨by omega, by omega⟩, ⟨by omega, by omega⟩, by omega, i_5⟩
      ·
        have n_12 : gNe ((f_x k_a.toNatClampNeg).toInt) (32) := by have z := g5_eqN (a := (f_x k_a.toNatClampNeg).toInt) (b := 32) (by rfl) (by decide) c_12; unfold gNe; omega
        refine lv_aload_n hx hb dX8_cut_38 rfl (lv_at hl 4 rfl) ?_
        refine va_get (D := G.1) (ci := 8) (v := .ref a_pl) (C := RX8) (T := TX8) (N := 3) hx hb hts inG_X8 hown hK hP 0 rfl rfl 2 (by decide) (hts _ fl_X8_18) (fun _ h9 => h9) rfl dX8_cut_39 ?_
        refine lv_iload_n hx hb dX8_cut_42 rfl (lv_at hl 1 rfl) ?_
        refine lv_iload hx hb dX8_cut_43 (lv_at hl 2 rfl) ?_
        refine va_iast hx hb hK hP hD hS 3 0 rfl rfl (i := k_t) (x := k_a) (vp_in_iff.mpr ⟨by omega, by omega⟩) dX8_cut_45 (fun H locs hP hD hS => ?_)
        refine g5_rs [(a_tk, (oc8 a_kd a_nm a_pl)), (a_kd, (arI G 401 k_kd)), (a_nm, (arI G 401 k_nm)), (a_pl, (arI G 401 (upd k_pl k_t.toNatClampNeg k_a))), (a_x, (arI G 400 f_x))] hP hD (fun hP hD => ?_)
        refine lv_aload_n hx hb dX8_cut_46 rfl (lv_at hl 4 rfl) ?_
        refine va_get (D := G.1) (ci := 8) (v := .ref a_nm) (C := RX8) (T := TX8) (N := 3) hx hb hts inG_X8 hown hK hP 0 rfl rfl 1 (by decide) (hts _ fl_X8_15) (fun _ h9 => h9) rfl dX8_cut_47 ?_
        refine lv_iload_n hx hb dX8_cut_50 rfl (lv_at hl 1 rfl) ?_
        refine lv_aload_n hx hb dX8_cut_51 rfl (lv_at hl 5 rfl) ?_
        refine lv_iload hx hb dX8_cut_52 (lv_at hl 2 rfl) ?_
        refine va_iald hx hb hK hP 4 0 rfl rfl (i := k_a) (vp_in_iff.mpr ⟨by omega, by omega⟩) dX8_cut_54 ?_
        obtain ⟨hPc, hDc, hFc⟩ := g5_sub3 (wc := []) hP hD hS hA [] (by decide) rfl
        refine va_calli (va_runS (As := [.int (f_x k_a.toNatClampNeg)]) (rest := [.int k_t, .ref a_nm]) ⟨hx, hb, hml, hown, hts⟩ (k_digit l G H.size (f_x k_a.toNatClampNeg)) (va_cwS 1 hts gS_X8_25 rfl rfl rfl hs_X8_isDigit ⟨Nat.le_of_ble_eq_true rfl, Nat.le_of_ble_eq_true rfl⟩) (g5_preS hPc hK hDc hN hT hS hFc) rfl rfl hl.1 rfl (lv_room (Nat.le_of_ble_eq_true rfl)) dX8_cut_55 ⟨Nat.le_of_ble_eq_true rfl, Nat.le_of_ble_eq_true rfl⟩) hS (fun q _ h => hFc q h) hFc (fun r u t H1 locs ht hvm hw hB hz1 hk1 hS => ?_)
        obtain ⟨hP1, hD1⟩ := hB
        rw [ht] at hP1
        rcases hw with ⟨i_14, rfl, rfl⟩ | ⟨i_15, rfl, rfl⟩
        ·
          have i_14 : 48 ≤ (f_x k_a.toNatClampNeg).toInt ∧ (f_x k_a.toNatClampNeg).toInt ≤ 57 := i_14
          have hP := g5_same hP hk1
          generalize H1 = H at hP hS ⊢
          refine lv_if_eq (tgt := 72) hx hb dX8_cut_58 (by decide) (fun c_16 => ?_) (fun c_16 => ?_)
          ·
            exact absurd c_16 (by decide)
          ·
            refine lv_aload_n hx hb dX8_cut_61 rfl (lv_at hl 5 rfl) ?_
            refine lv_iload hx hb dX8_cut_62 (lv_at hl 2 rfl) ?_
            refine lv_iload hx hb dX8_cut_64 (lv_at hl 0 rfl) ?_
            obtain ⟨hPc, hDc, hFc⟩ := g5_sub3 (wc := [(a_x, (arI G 400 f_x))]) hP hD hS hA [4] (by decide) rfl
            refine va_calli (va_runS (As := [.ref a_x, .int k_a, .int z10]) (rest := [.int k_t, .ref a_nm]) ⟨hx, hb, hml, hown, hts⟩ (k_number l G a_x H.size k_a z10 f_x i_2 ⟨by omega, by omega⟩) (va_cwS 3 hts gS_X8_29 rfl rfl rfl hs_X8_numberIn ⟨Nat.le_of_ble_eq_true rfl, Nat.le_of_ble_eq_true rfl⟩) (g5_preS hPc hK hDc hN hT hS hFc) rfl rfl hl.1 rfl (lv_room (Nat.le_of_ble_eq_true rfl)) dX8_cut_66 ⟨Nat.le_of_ble_eq_true rfl, Nat.le_of_ble_eq_true rfl⟩) hS (fun q _ h => hFc q h) hFc (fun r u t H1 locs ht hvm hw hB hz1 hk1 hS => ?_)
            obtain ⟨hP1, hD1⟩ := hB
            rw [ht] at hP1
            obtain ⟨z18, i_17, y19, rfl⟩ := hw
            have i_17 : z18 = nmbO f_x k_a z10 0 := i_17
            obtain ⟨hP, hD⟩ := va_join (wr := [(a_tk, (oc8 a_kd a_nm a_pl)), (a_kd, (arI G 401 k_kd)), (a_nm, (arI G 401 k_nm)), (a_pl, (arI G 401 (upd k_pl k_t.toNatClampNeg k_a)))]) hP hD [4] [0, 1, 2, 3] rfl rfl (by decide) (by decide) hk1 hFc hP1 hD1
            generalize H1 = H at hP hS ⊢
            refine g5_rs [(a_tk, (oc8 a_kd a_nm a_pl)), (a_kd, (arI G 401 k_kd)), (a_nm, (arI G 401 k_nm)), (a_pl, (arI G 401 (upd k_pl k_t.toNatClampNeg k_a))), (a_x, (arI G 400 f_x))] hP hD (fun hP hD => ?_)
            refine g5_ti (v := z18) y19 ?_
            refine lv_goto (tgt := 73) hx hb dX8_cut_69 (by decide) ?_
            refine va_iast hx hb hK hP hD hS 2 0 rfl rfl (i := k_t) (x := z18) (vp_in_iff.mpr ⟨by omega, by omega⟩) dX8_cut_73 (fun H locs hP hD hS => ?_)
            refine g5_rs [(a_tk, (oc8 a_kd a_nm a_pl)), (a_kd, (arI G 401 k_kd)), (a_nm, (arI G 401 (upd k_nm k_t.toNatClampNeg z18))), (a_pl, (arI G 401 (upd k_pl k_t.toNatClampNeg k_a))), (a_x, (arI G 400 f_x))] hP hD (fun hP hD => ?_)
            refine lv_aload_n hx hb dX8_cut_74 rfl (lv_at hl 4 rfl) ?_
            refine va_get (D := G.1) (ci := 8) (v := .ref a_kd) (C := RX8) (T := TX8) (N := 3) hx hb hts inG_X8 hown hK hP 0 rfl rfl 0 (by decide) (hts _ fl_X8_9) (fun _ h9 => h9) rfl dX8_cut_75 ?_
            refine lv_iload_n hx hb dX8_cut_78 rfl (lv_at hl 1 rfl) ?_
            refine lv_aload_n hx hb dX8_cut_79 rfl (lv_at hl 5 rfl) ?_
            refine lv_iload hx hb dX8_cut_80 (lv_at hl 2 rfl) ?_
            refine lv_iload hx hb dX8_cut_82 (lv_at hl 0 rfl) ?_
            obtain ⟨hPc, hDc, hFc⟩ := g5_sub3 (wc := [(a_x, (arI G 400 f_x))]) hP hD hS hA [4] (by decide) rfl
            refine va_calli (va_runS (As := [.ref a_x, .int k_a, .int z10]) (rest := [.int k_t, .ref a_kd]) ⟨hx, hb, hml, hown, hts⟩ (k_kindOf l G a_x H.size k_a z10 f_x ⟨by omega, by omega⟩ ⟨by omega, by omega⟩) (va_cwS 3 hts gS_X8_32 rfl rfl rfl hs_X8_kindOf ⟨Nat.le_of_ble_eq_true rfl, Nat.le_of_ble_eq_true rfl⟩) (g5_preS hPc hK hDc hN hT hS hFc) rfl rfl hl.1 rfl (lv_room (Nat.le_of_ble_eq_true rfl)) dX8_cut_84 ⟨Nat.le_of_ble_eq_true rfl, Nat.le_of_ble_eq_true rfl⟩) hS (fun q _ h => hFc q h) hFc (fun r u t H1 locs ht hvm hw hB hz1 hk1 hS => ?_)
            obtain ⟨hP1, hD1⟩ := hB
            rw [ht] at hP1
            obtain ⟨z21, i_20, y22, rfl⟩ := hw
            have i_20 : 48 ≤ (f_x k_a.toNatClampNeg).toInt ∧ (f_x k_a.toNatClampNeg).toInt ≤ 57 → z21 = 300 → (nmbO f_x k_a z10 0).toInt ≤ 1000 := i_20
            obtain ⟨hP, hD⟩ := va_join (wr := [(a_tk, (oc8 a_kd a_nm a_pl)), (a_kd, (arI G 401 k_kd)), (a_nm, (arI G 401 (upd k_nm k_t.toNatClampNeg z18))), (a_pl, (arI G 401 (upd k_pl k_t.toNatClampNeg k_a)))]) hP hD [4] [0, 1, 2, 3] rfl rfl (by decide) (by decide) hk1 hFc hP1 hD1
            generalize H1 = H at hP hS ⊢
            refine g5_rs [(a_tk, (oc8 a_kd a_nm a_pl)), (a_kd, (arI G 401 k_kd)), (a_nm, (arI G 401 (upd k_nm k_t.toNatClampNeg z18))), (a_pl, (arI G 401 (upd k_pl k_t.toNatClampNeg k_a))), (a_x, (arI G 400 f_x))] hP hD (fun hP hD => ?_)
            refine g5_ti (v := z21) y22 ?_
            refine va_iast hx hb hK hP hD hS 1 0 rfl rfl (i := k_t) (x := z21) (vp_in_iff.mpr ⟨by omega, by omega⟩) dX8_cut_87 (fun H locs hP hD hS => ?_)
            refine g5_rs [(a_tk, (oc8 a_kd a_nm a_pl)), (a_kd, (arI G 401 (upd k_kd k_t.toNatClampNeg z21))), (a_nm, (arI G 401 (upd k_nm k_t.toNatClampNeg z18))), (a_pl, (arI G 401 (upd k_pl k_t.toNatClampNeg k_a))), (a_x, (arI G 400 f_x))] hP hD (fun hP hD => ?_)
            refine lv_iinc (v := (k_t + 1)) (lv' := [(3, .int (k_t + 1)), (6, .int z10), (4, .int k_a), (5, .int k_i), (0, .ref a_tk), (1, .ref a_x), (2, .int p_n)]) hx hb dX8_cut_88 hl (k := 1) rfl rfl (by decide) rfl (fun ls hl => ?_)
            have t_23 : (k_t + 1).toInt = k_t.toInt + 1 := g5_iadd (a := k_t.toInt) (b := 1) rfl (by decide) (by omega) (by omega)
            refine lv_iload hx hb dX8_cut_91 (lv_at hl 1 rfl) ?_
            refine lv_istore (lv' := [(4, .int z10), (3, .int (k_t + 1)), (6, .int z10), (5, .int k_i), (0, .ref a_tk), (1, .ref a_x), (2, .int p_n)]) hx hb dX8_cut_93 hl (by decide) rfl (fun ls hl => ?_)
            refine lv_iinc (v := (k_i + 1)) (lv' := [(5, .int (k_i + 1)), (4, .int z10), (3, .int (k_t + 1)), (6, .int z10), (0, .ref a_tk), (1, .ref a_x), (2, .int p_n)]) hx hb dX8_cut_95 hl (k := 3) rfl rfl (by decide) rfl (fun ls hl => ?_)
            have t_24 : (k_i + 1).toInt = k_i.toInt + 1 := g5_iadd (a := k_i.toInt) (b := 1) rfl (by decide) (by omega) (by omega)
            refine lv_goto (tgt := 8) hx hb dX8_cut_98 (by decide) ?_
            exact ih_8_6 ((k_t + 1), z10, (k_i + 1), (upd k_kd k_t.toNatClampNeg z21), (upd k_nm k_t.toNatClampNeg z18), (upd k_pl k_t.toNatClampNeg k_a)) ls H locs (show Int.toNat (400 - (k_i + 1).toInt) < Int.toNat (400 - k_i.toInt) from g_up (show k_i.toInt < (k_i + 1).toInt by omega) (show k_i.toInt < 400 by omega)) ⟨lv_sub hl [2, 1, 0, 4, 5, 6] rfl, hP, hD, hS, ⟨by omega, by omega⟩, ⟨by omega, by omega⟩, ⟨by omega, by omega⟩, by omega, tok_set i_5 (fun h => by rw [i_17]; exact i_20 i_14 h)⟩
        ·
          have i_15 : (f_x k_a.toNatClampNeg).toInt < 48 ∨ 57 < (f_x k_a.toNatClampNeg).toInt := i_15
          have hP := g5_same hP hk1
          generalize H1 = H at hP hS ⊢
          refine lv_if_eq (tgt := 72) hx hb dX8_cut_58 (by decide) (fun c_25 => ?_) (fun c_25 => ?_)
          ·
            refine lv_iconst (v := 0) hx hb dX8_cut_72 (by decide) ?_
            refine va_iast hx hb hK hP hD hS 2 0 rfl rfl (i := k_t) (x := 0) (vp_in_iff.mpr ⟨by omega, by omega⟩) dX8_cut_73 (fun H locs hP hD hS => ?_)
            refine g5_rs [(a_tk, (oc8 a_kd a_nm a_pl)), (a_kd, (arI G 401 k_kd)), (a_nm, (arI G 401 (upd k_nm k_t.toNatClampNeg 0))), (a_pl, (arI G 401 (upd k_pl k_t.toNatClampNeg k_a))), (a_x, (arI G 400 f_x))] hP hD (fun hP hD => ?_)
            refine lv_aload_n hx hb dX8_cut_74 rfl (lv_at hl 4 rfl) ?_
            refine va_get (D := G.1) (ci := 8) (v := .ref a_kd) (C := RX8) (T := TX8) (N := 3) hx hb hts inG_X8 hown hK hP 0 rfl rfl 0 (by decide) (hts _ fl_X8_9) (fun _ h9 => h9) rfl dX8_cut_75 ?_
            refine lv_iload_n hx hb dX8_cut_78 rfl (lv_at hl 1 rfl) ?_
            refine lv_aload_n hx hb dX8_cut_79 rfl (lv_at hl 5 rfl) ?_
            refine lv_iload hx hb dX8_cut_80 (lv_at hl 2 rfl) ?_
            refine lv_iload hx hb dX8_cut_82 (lv_at hl 0 rfl) ?_
            obtain ⟨hPc, hDc, hFc⟩ := g5_sub3 (wc := [(a_x, (arI G 400 f_x))]) hP hD hS hA [4] (by decide) rfl
            refine va_calli (va_runS (As := [.ref a_x, .int k_a, .int z10]) (rest := [.int k_t, .ref a_kd]) ⟨hx, hb, hml, hown, hts⟩ (k_kindOf l G a_x H.size k_a z10 f_x ⟨by omega, by omega⟩ ⟨by omega, by omega⟩) (va_cwS 3 hts gS_X8_32 rfl rfl rfl hs_X8_kindOf ⟨Nat.le_of_ble_eq_true rfl, Nat.le_of_ble_eq_true rfl⟩) (g5_preS hPc hK hDc hN hT hS hFc) rfl rfl hl.1 rfl (lv_room (Nat.le_of_ble_eq_true rfl)) dX8_cut_84 ⟨Nat.le_of_ble_eq_true rfl, Nat.le_of_ble_eq_true rfl⟩) hS (fun q _ h => hFc q h) hFc (fun r u t H1 locs ht hvm hw hB hz1 hk1 hS => ?_)
            obtain ⟨hP1, hD1⟩ := hB
            rw [ht] at hP1
            obtain ⟨z27, i_26, y28, rfl⟩ := hw
            have i_26 : 48 ≤ (f_x k_a.toNatClampNeg).toInt ∧ (f_x k_a.toNatClampNeg).toInt ≤ 57 → z27 = 300 → (nmbO f_x k_a z10 0).toInt ≤ 1000 := i_26
            obtain ⟨hP, hD⟩ := va_join (wr := [(a_tk, (oc8 a_kd a_nm a_pl)), (a_kd, (arI G 401 k_kd)), (a_nm, (arI G 401 (upd k_nm k_t.toNatClampNeg 0))), (a_pl, (arI G 401 (upd k_pl k_t.toNatClampNeg k_a)))]) hP hD [4] [0, 1, 2, 3] rfl rfl (by decide) (by decide) hk1 hFc hP1 hD1
            generalize H1 = H at hP hS ⊢
            refine g5_rs [(a_tk, (oc8 a_kd a_nm a_pl)), (a_kd, (arI G 401 k_kd)), (a_nm, (arI G 401 (upd k_nm k_t.toNatClampNeg 0))), (a_pl, (arI G 401 (upd k_pl k_t.toNatClampNeg k_a))), (a_x, (arI G 400 f_x))] hP hD (fun hP hD => ?_)
            refine g5_ti (v := z27) y28 ?_
            refine va_iast hx hb hK hP hD hS 1 0 rfl rfl (i := k_t) (x := z27) (vp_in_iff.mpr ⟨by omega, by omega⟩) dX8_cut_87 (fun H locs hP hD hS => ?_)
            refine g5_rs [(a_tk, (oc8 a_kd a_nm a_pl)), (a_kd, (arI G 401 (upd k_kd k_t.toNatClampNeg z27))), (a_nm, (arI G 401 (upd k_nm k_t.toNatClampNeg 0))), (a_pl, (arI G 401 (upd k_pl k_t.toNatClampNeg k_a))), (a_x, (arI G 400 f_x))] hP hD (fun hP hD => ?_)
            refine lv_iinc (v := (k_t + 1)) (lv' := [(3, .int (k_t + 1)), (6, .int z10), (4, .int k_a), (5, .int k_i), (0, .ref a_tk), (1, .ref a_x), (2, .int p_n)]) hx hb dX8_cut_88 hl (k := 1) rfl rfl (by decide) rfl (fun ls hl => ?_)
            have t_29 : (k_t + 1).toInt = k_t.toInt + 1 := g5_iadd (a := k_t.toInt) (b := 1) rfl (by decide) (by omega) (by omega)
            refine lv_iload hx hb dX8_cut_91 (lv_at hl 1 rfl) ?_
            refine lv_istore (lv' := [(4, .int z10), (3, .int (k_t + 1)), (6, .int z10), (5, .int k_i), (0, .ref a_tk), (1, .ref a_x), (2, .int p_n)]) hx hb dX8_cut_93 hl (by decide) rfl (fun ls hl => ?_)
            refine lv_iinc (v := (k_i + 1)) (lv' := [(5, .int (k_i + 1)), (4, .int z10), (3, .int (k_t + 1)), (6, .int z10), (0, .ref a_tk), (1, .ref a_x), (2, .int p_n)]) hx hb dX8_cut_95 hl (k := 3) rfl rfl (by decide) rfl (fun ls hl => ?_)
            have t_30 : (k_i + 1).toInt = k_i.toInt + 1 := g5_iadd (a := k_i.toInt) (b := 1) rfl (by decide) (by omega) (by omega)
            refine lv_goto (tgt := 8) hx hb dX8_cut_98 (by decide) ?_
            exact ih_8_6 ((k_t + 1), z10, (k_i + 1), (upd k_kd k_t.toNatClampNeg z27), (upd k_nm k_t.toNatClampNeg 0), (upd k_pl k_t.toNatClampNeg k_a)) ls H locs (show Int.toNat (400 - (k_i + 1).toInt) < Int.toNat (400 - k_i.toInt) from g_up (show k_i.toInt < (k_i + 1).toInt by omega) (show k_i.toInt < 400 by omega)) ⟨lv_sub hl [2, 1, 0, 4, 5, 6] rfl, hP, hD, hS, ⟨by omega, by omega⟩, ⟨by omega, by omega⟩, ⟨by omega, by omega⟩, by omega, tok_set i_5 (fun _ => by decide)⟩
          ·
            exact absurd c_25 (by decide)
