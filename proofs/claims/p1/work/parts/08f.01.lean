set_option maxHeartbeats 4000000 in
set_option maxRecDepth 100000 in
theorem k_mcould (l : Launch) (G : g5_G) (a_y a_2 a_19 a_17 a_18 a_1 a_3 a_4 a_5 a_6 a_7 a_8 a_9 a_10 a_11 a_12 a_13 a_14 a_15 a_16 a_20 a_21 a_22 : Nat) (sz : Nat) (p_h : Int32) (p_c : Int32) : Met l yX12_could (wsG yX12_could cX12_could 6 (some .long)) ({ frames := 10, cells := 0, slots := 0, locals := 446 }) (va_Pc [.ref a_y, .int p_h, .int p_c] (g5_P G [(a_y, .inr (12, [.int 0, .int 0, .ref a_1, .ref a_2, .ref a_3, .ref a_4, .int 0, .ref a_5, .int 0, .int 0, .int 0, .int 0, .long 0, .int (-1), .int 0, .int 0, .ref a_6, .int 0, .ref a_7, .ref a_8, .int 0, .ref a_9, .ref a_10, .int 0, .int 0, .ref a_11, .ref a_12, .int 0, .ref a_13, .ref a_14, .int 0, .long 0, .long 0, .int 0, .int 0, .int 0, .int 0, .int 0, .ref a_15, .int 0, .int 0, .ref a_16, .int 0, .ref a_17, .ref a_18, .ref a_19, .int 0, .ref a_20, .ref a_21, .long 0, .ref a_22, .int 0])), (a_2, .inl (G.2 0, 5740, .inl (upd (upd (upd (fun _ => 0) 3 (-1)) 4 1000) 6 (-1)))), (a_19, .inl (G.2 0, 1536, .inl (fun _ => 0))), (a_17, .inl (G.2 1, 49152, .inr (.inl (fun _ => 0)))), (a_18, .inl (G.2 1, 49152, .inr (.inl (fun _ => 0))))] sz)) (va_Ql (fun (r : Int64) (u : va_W) => (∃ (o_r : Int64), (o_r = spL_could p_h.toInt p_c.toInt) ∧ (r = o_r) ∧ (u = []))) (g5_B G (va_A [(a_y, .inr (12, [.int 0, .int 0, .ref a_1, .ref a_2, .ref a_3, .ref a_4, .int 0, .ref a_5, .int 0, .int 0, .int 0, .int 0, .long 0, .int (-1), .int 0, .int 0, .ref a_6, .int 0, .ref a_7, .ref a_8, .int 0, .ref a_9, .ref a_10, .int 0, .int 0, .ref a_11, .ref a_12, .int 0, .ref a_13, .ref a_14, .int 0, .long 0, .long 0, .int 0, .int 0, .int 0, .int 0, .int 0, .ref a_15, .int 0, .int 0, .ref a_16, .int 0, .ref a_17, .ref a_18, .ref a_19, .int 0, .ref a_20, .ref a_21, .long 0, .ref a_22, .int 0])), (a_2, .inl (G.2 0, 5740, .inl (upd (upd (upd (fun _ => 0) 3 (-1)) 4 1000) 6 (-1)))), (a_19, .inl (G.2 0, 1536, .inl (fun _ => 0))), (a_17, .inl (G.2 1, 49152, .inr (.inl (fun _ => 0)))), (a_18, .inl (G.2 1, 49152, .inr (.inl (fun _ => 0))))] sz)) (va_A [(a_y, .inr (12, [.int 0, .int 0, .ref a_1, .ref a_2, .ref a_3, .ref a_4, .int 0, .ref a_5, .int 0, .int 0, .int 0, .int 0, .long 0, .int (-1), .int 0, .int 0, .ref a_6, .int 0, .ref a_7, .ref a_8, .int 0, .ref a_9, .ref a_10, .int 0, .int 0, .ref a_11, .ref a_12, .int 0, .ref a_13, .ref a_14, .int 0, .long 0, .long 0, .int 0, .int 0, .int 0, .int 0, .int 0, .ref a_15, .int 0, .int 0, .ref a_16, .int 0, .ref a_17, .ref a_18, .ref a_19, .int 0, .ref a_20, .ref a_21, .long 0, .ref a_22, .int 0])), (a_2, .inl (G.2 0, 5740, .inl (upd (upd (upd (fun _ => 0) 3 (-1)) 4 1000) 6 (-1)))), (a_19, .inl (G.2 0, 1536, .inl (fun _ => 0))), (a_17, .inl (G.2 1, 49152, .inr (.inl (fun _ => 0)))), (a_18, .inl (G.2 1, 49152, .inr (.inl (fun _ => 0))))] sz)) 0 0 (va_A [(a_y, .inr (12, [.int 0, .int 0, .ref a_1, .ref a_2, .ref a_3, .ref a_4, .int 0, .ref a_5, .int 0, .int 0, .int 0, .int 0, .long 0, .int (-1), .int 0, .int 0, .ref a_6, .int 0, .ref a_7, .ref a_8, .int 0, .ref a_9, .ref a_10, .int 0, .int 0, .ref a_11, .ref a_12, .int 0, .ref a_13, .ref a_14, .int 0, .long 0, .long 0, .int 0, .int 0, .int 0, .int 0, .int 0, .ref a_15, .int 0, .int 0, .ref a_16, .int 0, .ref a_17, .ref a_18, .ref a_19, .int 0, .ref a_20, .ref a_21, .long 0, .ref a_22, .int 0])), (a_2, .inl (G.2 0, 5740, .inl (upd (upd (upd (fun _ => 0) 3 (-1)) 4 1000) 6 (-1)))), (a_19, .inl (G.2 0, 1536, .inl (fun _ => 0))), (a_17, .inl (G.2 1, 49152, .inr (.inl (fun _ => 0)))), (a_18, .inl (G.2 1, 49152, .inr (.inl (fun _ => 0))))] sz) := by
  refine Met.ofW (cc := cX12_could) (maxL := 6) (ret := (some .long)) (by decide) rfl ?_
  intro p e s m args below meth c s₁ B hml hv
  obtain ⟨rfl, hsz, hP, hK, hD0, hN, hT⟩ := hv
  have hx := B.exec
  have hb := B.bytes
  have hr := B.returns
  have hts : ∀ w ∈ tblG, w.before _ s = true := fun w h => atoms_spec (ws := (wsG yX12_could cX12_could 6 (some .long))) B.pre w (List.mem_cons_of_mem _ h)
  have hown : s.vm.findClass RX12 = some m.cls := findClass_of_methodNamed B.named
  have hlocks := B.notSynchronized
  subst hsz
  have hD := hD0.self (sz := s.heap.size)
  generalize hAe : va_A [(a_y, .inr (12, [.int 0, .int 0, .ref a_1, .ref a_2, .ref a_3, .ref a_4, .int 0, .ref a_5, .int 0, .int 0, .int 0, .int 0, .long 0, .int (-1), .int 0, .int 0, .ref a_6, .int 0, .ref a_7, .ref a_8, .int 0, .ref a_9, .ref a_10, .int 0, .int 0, .ref a_11, .ref a_12, .int 0, .ref a_13, .ref a_14, .int 0, .long 0, .long 0, .int 0, .int 0, .int 0, .int 0, .int 0, .ref a_15, .int 0, .int 0, .ref a_16, .int 0, .ref a_17, .ref a_18, .ref a_19, .int 0, .ref a_20, .ref a_21, .long 0, .ref a_22, .int 0])), (a_2, .inl (G.2 0, 5740, .inl (upd (upd (upd (fun _ => 0) 3 (-1)) 4 1000) 6 (-1)))), (a_19, .inl (G.2 0, 1536, .inl (fun _ => 0))), (a_17, .inl (G.2 1, 49152, .inr (.inl (fun _ => 0)))), (a_18, .inl (G.2 1, 49152, .inr (.inl (fun _ => 0))))] s.heap.size = A at hD hT ⊢
  have hA : ∀ q : Nat, s.heap.size ≤ q → A q := fun q h => by rw [← hAe]; exact Or.inr h
  have hS : va_S A s.heap s.heap [] := va_S.rf
  have hP : va_P G.1 vwCl [(a_y, .inr (12, [.int 0, .int 0, .ref a_1, .ref a_2, .ref a_3, .ref a_4, .int 0, .ref a_5, .int 0, .int 0, .int 0, .int 0, .long 0, .int (-1), .int 0, .int 0, .ref a_6, .int 0, .ref a_7, .ref a_8, .int 0, .ref a_9, .ref a_10, .int 0, .int 0, .ref a_11, .ref a_12, .int 0, .ref a_13, .ref a_14, .int 0, .long 0, .long 0, .int 0, .int 0, .int 0, .int 0, .int 0, .ref a_15, .int 0, .int 0, .ref a_16, .int 0, .ref a_17, .ref a_18, .ref a_19, .int 0, .ref a_20, .ref a_21, .long 0, .ref a_22, .int 0])), (a_2, .inl (G.2 0, 5740, .inl (upd (upd (upd (fun _ => 0) 3 (-1)) 4 1000) 6 (-1)))), (a_19, .inl (G.2 0, 1536, .inl (fun _ => 0))), (a_17, .inl (G.2 1, 49152, .inr (.inl (fun _ => 0)))), (a_18, .inl (G.2 1, 49152, .inr (.inl (fun _ => 0))))] s.heap := hP
  have hl := lv_entry ([.ref a_y, .int p_h, .int p_c]) (n := 6) (Nat.le_of_ble_eq_true rfl)
  rw [lg_entry_eq]
  generalize (lg_sl ([.ref a_y, .int p_h, .int p_c]) ++ List.replicate (6 - (lg_sl ([.ref a_y, .int p_h, .int p_c])).length) Slot.unset).toArray = ls at hl ⊢
  have hl : lv_has ls 6 [(0, .ref a_y), (1, .int p_h), (2, .int p_c)] := hl
  refine lv_aload_n hx hb dX12_could_0 rfl (lv_at hl 0 rfl) ?_
  refine lv_iconst (v := 0) hx hb dX12_could_1 (by decide) ?_
  refine va_put (D := G.1) (ci := 12) (v := .int 0) (ty := .int) (C := RX12) (T := TX12) (N := 52) hx hb hts inG_X12 tyX12 tyX12_ok nmX12 hown hK hP hD hS 0 rfl rfl 0 (by decide) (hts _ fl_X12_107) (fun _ h9 => h9) rfl (by decide +kernel) rfl rfl (Nat.le_of_ble_eq_true rfl) dX12_could_2 (fun H locs hP hD hS => ?_)
  have hP : va_P G.1 vwCl [(a_y, .inr (12, [.int 0, .int 0, .ref a_1, .ref a_2, .ref a_3, .ref a_4, .int 0, .ref a_5, .int 0, .int 0, .int 0, .int 0, .long 0, .int (-1), .int 0, .int 0, .ref a_6, .int 0, .ref a_7, .ref a_8, .int 0, .ref a_9, .ref a_10, .int 0, .int 0, .ref a_11, .ref a_12, .int 0, .ref a_13, .ref a_14, .int 0, .long 0, .long 0, .int 0, .int 0, .int 0, .int 0, .int 0, .ref a_15, .int 0, .int 0, .ref a_16, .int 0, .ref a_17, .ref a_18, .ref a_19, .int 0, .ref a_20, .ref a_21, .long 0, .ref a_22, .int 0])), (a_2, .inl (G.2 0, 5740, .inl (upd (upd (upd (fun _ => 0) 3 (-1)) 4 1000) 6 (-1)))), (a_19, .inl (G.2 0, 1536, .inl (fun _ => 0))), (a_17, .inl (G.2 1, 49152, .inr (.inl (fun _ => 0)))), (a_18, .inl (G.2 1, 49152, .inr (.inl (fun _ => 0))))] H := hP
  have hD : va_D A [(a_y, .inr (12, [.int 0, .int 0, .ref a_1, .ref a_2, .ref a_3, .ref a_4, .int 0, .ref a_5, .int 0, .int 0, .int 0, .int 0, .long 0, .int (-1), .int 0, .int 0, .ref a_6, .int 0, .ref a_7, .ref a_8, .int 0, .ref a_9, .ref a_10, .int 0, .int 0, .ref a_11, .ref a_12, .int 0, .ref a_13, .ref a_14, .int 0, .long 0, .long 0, .int 0, .int 0, .int 0, .int 0, .int 0, .ref a_15, .int 0, .int 0, .ref a_16, .int 0, .ref a_17, .ref a_18, .ref a_19, .int 0, .ref a_20, .ref a_21, .long 0, .ref a_22, .int 0])), (a_2, .inl (G.2 0, 5740, .inl (upd (upd (upd (fun _ => 0) 3 (-1)) 4 1000) 6 (-1)))), (a_19, .inl (G.2 0, 1536, .inl (fun _ => 0))), (a_17, .inl (G.2 1, 49152, .inr (.inl (fun _ => 0)))), (a_18, .inl (G.2 1, 49152, .inr (.inl (fun _ => 0))))] := hD
  refine lv_iload_n hx hb dX12_could_5 rfl (lv_at hl 1 rfl) ?_
  have hPc := hP.sub (ws' := []) [] rfl
  have hDc := hD.sub (ws' := []) [] (by decide) rfl
  have hFc := va_free (wc := []) hD hS hA [] rfl
  refine va_calli (va_runS (As := [.int p_h]) (rest := []) ⟨hx, hb, hml, hown, hts⟩ (kX12_isHour l G H.size p_h) (va_cwS 1 hts gS_X12_175 rfl rfl rfl hs_X12_isHour ⟨Nat.le_of_ble_eq_true rfl, Nat.le_of_ble_eq_true rfl⟩) (g5_preS hPc hK hDc hN hT hS hFc) rfl rfl hl.1 rfl (lv_room (Nat.le_of_ble_eq_true rfl)) dX12_could_6 ⟨Nat.le_of_ble_eq_true rfl, Nat.le_of_ble_eq_true rfl⟩) hS (fun q _ h => hFc q h) hFc (fun r u t H1 locs ht hvm hw hB hz1 hk1 hS => ?_)
  obtain ⟨hP1, hD1⟩ := hB
  rw [ht] at hP1
  rcases hw with ⟨i_1, rfl, rfl⟩ | ⟨i_2, rfl, rfl⟩
  ·
    have hP := g5_same hP hk1
    generalize H1 = H at hP hS ⊢
    refine lv_if_eq (tgt := 26) hx hb dX12_could_9 (by decide) (fun c_3 => ?_) (fun c_3 => ?_)
    ·
      refine lv_ldc2 (v := (-1)) hx hb hown (hts _ kl_X12_178) dX12_could_26 ?_
      exact W.lret (v := (-1)) hx hb hr (fun t ht hW => ⟨⟨(-1), [], rfl, ⟨(-1), g5_couldN (by omega), rfl, rfl⟩, by rw [ht]; exact hP.sub [] rfl, hD.sub [] (by decide) rfl⟩, hS.F ht⟩) hS.2.2 dX12_could_29
    ·
      exact absurd c_3 (by decide)
  ·
    have hP := g5_same hP hk1
    generalize H1 = H at hP hS ⊢
    refine lv_if_eq (tgt := 26) hx hb dX12_could_9 (by decide) (fun c_4 => ?_) (fun c_4 => ?_)
    ·
      exact absurd c_4 (by decide)
    ·
      refine lv_iload_n hx hb dX12_could_12 rfl (lv_at hl 2 rfl) ?_
      refine lv_i2l (v := p_c.toInt64) hx hb dX12_could_13 rfl ?_
      refine lv_ldc2 (v := (-1)) hx hb hown (hts _ kl_X12_178) dX12_could_14 ?_
      refine lv_ldc2 (v := 63) hx hb hown (hts _ kl_X12_128) dX12_could_17 ?_
      have hPc := hP.sub (ws' := []) [] rfl
      have hDc := hD.sub (ws' := []) [] (by decide) rfl
      have hFc := va_free (wc := []) hD hS hA [] rfl
      refine va_calli (va_runS (As := [.long p_c.toInt64, .long (-1), .long 63]) (rest := []) ⟨hx, hb, hml, hown, hts⟩ (k_in_m1_63 l G H.size p_c) (va_cwS 3 hts gS_X12_121 rfl rfl rfl hs_X12_in ⟨Nat.le_of_ble_eq_true rfl, Nat.le_of_ble_eq_true rfl⟩) (g5_preS hPc hK hDc hN hT hS hFc) rfl rfl hl.1 rfl (lv_room (Nat.le_of_ble_eq_true rfl)) dX12_could_20 ⟨Nat.le_of_ble_eq_true rfl, Nat.le_of_ble_eq_true rfl⟩) hS (fun q _ h => hFc q h) hFc (fun r u t H1 locs ht hvm hw hB hz1 hk1 hS => ?_)
      obtain ⟨hP1, hD1⟩ := hB
      rw [ht] at hP1
      rcases hw with ⟨i_5, rfl, rfl⟩ | ⟨i_6, rfl, rfl⟩
      ·
        have i_5 : p_c.toInt < (-1) ∨ 63 < p_c.toInt := i_5
        have hP := g5_same hP hk1
        generalize H1 = H at hP hS ⊢
        refine lv_if_ne (tgt := 30) hx hb dX12_could_23 (by decide) (fun c_7 => ?_) (fun c_7 => ?_)
        ·
          exact absurd c_7 (by decide)
        ·
          refine lv_ldc2 (v := (-1)) hx hb hown (hts _ kl_X12_178) dX12_could_26 ?_
          exact W.lret (v := (-1)) hx hb hr (fun t ht hW => ⟨⟨(-1), [], rfl, ⟨(-1), g5_couldN (by omega), rfl, rfl⟩, by rw [ht]; exact hP.sub [] rfl, hD.sub [] (by decide) rfl⟩, hS.F ht⟩) hS.2.2 dX12_could_29
      ·
        have i_6 : (-1) ≤ p_c.toInt ∧ p_c.toInt ≤ 63 := i_6
        have hP := g5_same hP hk1
        generalize H1 = H at hP hS ⊢
        refine lv_if_ne (tgt := 30) hx hb dX12_could_23 (by decide) (fun c_8 => ?_) (fun c_8 => ?_)
        ·
          refine lv_aload_n hx hb dX12_could_30 rfl (lv_at hl 0 rfl) ?_
          have hPc := hP.sub (ws' := [(a_y, .inr (12, [.int 0, .int 0, .ref a_1, .ref a_2, .ref a_3, .ref a_4, .int 0, .ref a_5, .int 0, .int 0, .int 0, .int 0, .long 0, .int (-1), .int 0, .int 0, .ref a_6, .int 0, .ref a_7, .ref a_8, .int 0, .ref a_9, .ref a_10, .int 0, .int 0, .ref a_11, .ref a_12, .int 0, .ref a_13, .ref a_14, .int 0, .long 0, .long 0, .int 0, .int 0, .int 0, .int 0, .int 0, .ref a_15, .int 0, .int 0, .ref a_16, .int 0, .ref a_17, .ref a_18, .ref a_19, .int 0, .ref a_20, .ref a_21, .long 0, .ref a_22, .int 0])), (a_2, .inl (G.2 0, 5740, .inl (upd (upd (upd (fun _ => 0) 3 (-1)) 4 1000) 6 (-1)))), (a_19, .inl (G.2 0, 1536, .inl (fun _ => 0))), (a_17, .inl (G.2 1, 49152, .inr (.inl (fun _ => 0)))), (a_18, .inl (G.2 1, 49152, .inr (.inl (fun _ => 0))))]) [0, 1, 2, 3, 4] rfl
          have hDc := hD.sub (ws' := [(a_y, .inr (12, [.int 0, .int 0, .ref a_1, .ref a_2, .ref a_3, .ref a_4, .int 0, .ref a_5, .int 0, .int 0, .int 0, .int 0, .long 0, .int (-1), .int 0, .int 0, .ref a_6, .int 0, .ref a_7, .ref a_8, .int 0, .ref a_9, .ref a_10, .int 0, .int 0, .ref a_11, .ref a_12, .int 0, .ref a_13, .ref a_14, .int 0, .long 0, .long 0, .int 0, .int 0, .int 0, .int 0, .int 0, .ref a_15, .int 0, .int 0, .ref a_16, .int 0, .ref a_17, .ref a_18, .ref a_19, .int 0, .ref a_20, .ref a_21, .long 0, .ref a_22, .int 0])), (a_2, .inl (G.2 0, 5740, .inl (upd (upd (upd (fun _ => 0) 3 (-1)) 4 1000) 6 (-1)))), (a_19, .inl (G.2 0, 1536, .inl (fun _ => 0))), (a_17, .inl (G.2 1, 49152, .inr (.inl (fun _ => 0)))), (a_18, .inl (G.2 1, 49152, .inr (.inl (fun _ => 0))))]) [0, 1, 2, 3, 4] (by decide) rfl
          have hFc := va_free (wc := [(a_y, .inr (12, [.int 0, .int 0, .ref a_1, .ref a_2, .ref a_3, .ref a_4, .int 0, .ref a_5, .int 0, .int 0, .int 0, .int 0, .long 0, .int (-1), .int 0, .int 0, .ref a_6, .int 0, .ref a_7, .ref a_8, .int 0, .ref a_9, .ref a_10, .int 0, .int 0, .ref a_11, .ref a_12, .int 0, .ref a_13, .ref a_14, .int 0, .long 0, .long 0, .int 0, .int 0, .int 0, .int 0, .int 0, .ref a_15, .int 0, .int 0, .ref a_16, .int 0, .ref a_17, .ref a_18, .ref a_19, .int 0, .ref a_20, .ref a_21, .long 0, .ref a_22, .int 0])), (a_2, .inl (G.2 0, 5740, .inl (upd (upd (upd (fun _ => 0) 3 (-1)) 4 1000) 6 (-1)))), (a_19, .inl (G.2 0, 1536, .inl (fun _ => 0))), (a_17, .inl (G.2 1, 49152, .inr (.inl (fun _ => 0)))), (a_18, .inl (G.2 1, 49152, .inr (.inl (fun _ => 0))))]) hD hS hA [0, 1, 2, 3, 4] rfl
          refine va_callv (va_runV (As := []) (rest := []) ⟨hx, hb, hml, hown, hts⟩ (k_mcountRows l G a_y a_2 a_19 a_17 a_18 a_1 a_3 a_4 a_5 a_6 a_7 a_8 a_9 a_10 a_11 a_12 a_13 a_14 a_15 a_16 a_20 a_21 a_22 H.size 0 0 0 0 0 0 0 (fun _ => 0) (fun _ => 0) (fun _ => 0)) (cwV 0 hts gV_X12_444 rfl rfl rfl hv_X12_countRows ⟨Nat.le_of_ble_eq_true rfl, Nat.le_of_ble_eq_true rfl⟩) (g5_preV hPc hK hDc hN hT hS hFc (ci := 12) (q0 := 0) rfl rfl) rfl rfl hl.1 rfl (lv_room (Nat.le_of_ble_eq_true rfl)) dX12_could_31 ⟨Nat.le_of_ble_eq_true rfl, Nat.le_of_ble_eq_true rfl⟩) hS (fun q _ h => hFc q h) hFc (fun u t H1 locs ht hvm hw hB hz1 hk1 hS => ?_)
          obtain ⟨hP1, hD1⟩ := hB
          rw [ht] at hP1
          obtain ⟨z11, z12, i_9, i_10, rfl⟩ := hw
          have i_9 : isE (fun _ => 0) z11 := i_9
          have i_10 : isD (fun _ => 0) z12 := i_10
          obtain ⟨hP, hD⟩ := va_join (wr := []) (w1 := [(a_y, .inr (12, [.int 0, .int 0, .ref a_1, .ref a_2, .ref a_3, .ref a_4, .int 0, .ref a_5, .int 0, .int 0, .int 0, .int 0, .long 0, .int (-1), .int 0, .int 0, .ref a_6, .int 0, .ref a_7, .ref a_8, .int 0, .ref a_9, .ref a_10, .int 0, .int 0, .ref a_11, .ref a_12, .int 0, .ref a_13, .ref a_14, .int 0, .long 0, .long 0, .int 0, .int 0, .int 0, .int 0, .int 0, .ref a_15, .int 0, .int 0, .ref a_16, .int 1, .ref a_17, .ref a_18, .ref a_19, .int 0, .ref a_20, .ref a_21, .long 0, .ref a_22, .int 0])), (a_2, .inl (G.2 0, 5740, .inl (upd (upd (upd (fun _ => 0) 3 (-1)) 4 1000) 6 (-1)))), (a_19, .inl (G.2 0, 1536, .inl (fun _ => 0))), (a_17, .inl (G.2 1, 49152, .inr (.inl z11))), (a_18, .inl (G.2 1, 49152, .inr (.inl z12)))]) hP hD [0, 1, 2, 3, 4] [] rfl rfl (by decide) (by decide) hk1 hFc hP1 hD1
          generalize H1 = H at hP hS ⊢
          have hP : va_P G.1 vwCl [(a_y, .inr (12, [.int 0, .int 0, .ref a_1, .ref a_2, .ref a_3, .ref a_4, .int 0, .ref a_5, .int 0, .int 0, .int 0, .int 0, .long 0, .int (-1), .int 0, .int 0, .ref a_6, .int 0, .ref a_7, .ref a_8, .int 0, .ref a_9, .ref a_10, .int 0, .int 0, .ref a_11, .ref a_12, .int 0, .ref a_13, .ref a_14, .int 0, .long 0, .long 0, .int 0, .int 0, .int 0, .int 0, .int 0, .ref a_15, .int 0, .int 0, .ref a_16, .int 1, .ref a_17, .ref a_18, .ref a_19, .int 0, .ref a_20, .ref a_21, .long 0, .ref a_22, .int 0])), (a_2, .inl (G.2 0, 5740, .inl (upd (upd (upd (fun _ => 0) 3 (-1)) 4 1000) 6 (-1)))), (a_19, .inl (G.2 0, 1536, .inl (fun _ => 0))), (a_17, .inl (G.2 1, 49152, .inr (.inl z11))), (a_18, .inl (G.2 1, 49152, .inr (.inl z12)))] H := hP
          have hD : va_D A [(a_y, .inr (12, [.int 0, .int 0, .ref a_1, .ref a_2, .ref a_3, .ref a_4, .int 0, .ref a_5, .int 0, .int 0, .int 0, .int 0, .long 0, .int (-1), .int 0, .int 0, .ref a_6, .int 0, .ref a_7, .ref a_8, .int 0, .ref a_9, .ref a_10, .int 0, .int 0, .ref a_11, .ref a_12, .int 0, .ref a_13, .ref a_14, .int 0, .long 0, .long 0, .int 0, .int 0, .int 0, .int 0, .int 0, .ref a_15, .int 0, .int 0, .ref a_16, .int 1, .ref a_17, .ref a_18, .ref a_19, .int 0, .ref a_20, .ref a_21, .long 0, .ref a_22, .int 0])), (a_2, .inl (G.2 0, 5740, .inl (upd (upd (upd (fun _ => 0) 3 (-1)) 4 1000) 6 (-1)))), (a_19, .inl (G.2 0, 1536, .inl (fun _ => 0))), (a_17, .inl (G.2 1, 49152, .inr (.inl z11))), (a_18, .inl (G.2 1, 49152, .inr (.inl z12)))] := hD
          refine lv_iload_n hx hb dX12_could_34 rfl (lv_at hl 2 rfl) ?_
          refine lv_iconst (v := (-1)) hx hb dX12_could_35 (by decide) ?_
          refine lv_icmp_eq (tgt := 46) hx hb dX12_could_36 (by decide) (fun c_13 => ?_) (fun c_13 => ?_)
          ·
            have i_13 : p_c.toInt = (-1) := by have z := g5_eq (a := p_c.toInt) (b := (-1)) (by rfl) (by decide) c_13; omega
            refine lv_lconst (v := 0) hx hb dX12_could_46 (by decide) ?_
            refine lv_lstore_n (lv' := [(3, .long 0), (0, .ref a_y), (1, .int p_h), (2, .int p_c)]) hx hb dX12_could_47 rfl hl (by decide) rfl (fun ls hl => ?_)
            refine lv_iconst (v := 0) hx hb dX12_could_48 (by decide) ?_
            refine lv_istore (lv' := [(5, .int 0), (3, .long 0), (0, .ref a_y), (1, .int p_h), (2, .int p_c)]) hx hb dX12_could_49 hl (by decide) rfl (fun ls hl => ?_)
            refine g5_loop (α := (Int32) × (Int64)) (fun (q : (Int32) × (Int64)) (ls : Array Slot) (H : Heap) (locs : List Loc) => match q with | (k_c, k_n) => lv_has ls 6 [(3, .long k_n), (5, .int k_c), (0, .ref a_y), (1, .int p_h), (2, .int p_c)] ∧ va_P G.1 vwCl [(a_y, .inr (12, [.int 0, .int 0, .ref a_1, .ref a_2, .ref a_3, .ref a_4, .int 0, .ref a_5, .int 0, .int 0, .int 0, .int 0, .long 0, .int (-1), .int 0, .int 0, .ref a_6, .int 0, .ref a_7, .ref a_8, .int 0, .ref a_9, .ref a_10, .int 0, .int 0, .ref a_11, .ref a_12, .int 0, .ref a_13, .ref a_14, .int 0, .long 0, .long 0, .int 0, .int 0, .int 0, .int 0, .int 0, .ref a_15, .int 0, .int 0, .ref a_16, .int 1, .ref a_17, .ref a_18, .ref a_19, .int 0, .ref a_20, .ref a_21, .long 0, .ref a_22, .int 0])), (a_2, .inl (G.2 0, 5740, .inl (upd (upd (upd (fun _ => 0) 3 (-1)) 4 1000) 6 (-1)))), (a_19, .inl (G.2 0, 1536, .inl (fun _ => 0))), (a_17, .inl (G.2 1, 49152, .inr (.inl z11))), (a_18, .inl (G.2 1, 49152, .inr (.inl z12)))] H ∧ va_D A [(a_y, .inr (12, [.int 0, .int 0, .ref a_1, .ref a_2, .ref a_3, .ref a_4, .int 0, .ref a_5, .int 0, .int 0, .int 0, .int 0, .long 0, .int (-1), .int 0, .int 0, .ref a_6, .int 0, .ref a_7, .ref a_8, .int 0, .ref a_9, .ref a_10, .int 0, .int 0, .ref a_11, .ref a_12, .int 0, .ref a_13, .ref a_14, .int 0, .long 0, .long 0, .int 0, .int 0, .int 0, .int 0, .int 0, .ref a_15, .int 0, .int 0, .ref a_16, .int 1, .ref a_17, .ref a_18, .ref a_19, .int 0, .ref a_20, .ref a_21, .long 0, .ref a_22, .int 0])), (a_2, .inl (G.2 0, 5740, .inl (upd (upd (upd (fun _ => 0) 3 (-1)) 4 1000) 6 (-1)))), (a_19, .inl (G.2 0, 1536, .inl (fun _ => 0))), (a_17, .inl (G.2 1, 49152, .inr (.inl z11))), (a_18, .inl (G.2 1, 49152, .inr (.inl z12)))] ∧ va_S A s.heap H locs ∧ (0 ≤ k_c.toInt ∧ k_c.toInt ≤ 64) ∧ (k_n.toInt = k_c.toInt)) (fun (q : (Int32) × (Int64)) => match q with | (k_c, k_n) => Int.toNat (64 - k_c.toInt)) (0, 0) ⟨lv_sub hl [1, 0, 2, 3, 4] rfl, hP, hD, hS, ⟨by decide, by decide⟩, (by decide)⟩ ?_
            rintro ⟨k_c, k_n⟩ ls H locs ⟨hl, hP, hD, hS, i_14, i_15⟩ ih_51_16
            have hl : lv_has ls 6 [(3, .long k_n), (5, .int k_c), (0, .ref a_y), (1, .int p_h), (2, .int p_c)] := hl
            have i_14 : 0 ≤ k_c.toInt ∧ k_c.toInt ≤ 64 := i_14
            have i_15 : k_n.toInt = k_c.toInt := i_15
            have hP : va_P G.1 vwCl [(a_y, .inr (12, [.int 0, .int 0, .ref a_1, .ref a_2, .ref a_3, .ref a_4, .int 0, .ref a_5, .int 0, .int 0, .int 0, .int 0, .long 0, .int (-1), .int 0, .int 0, .ref a_6, .int 0, .ref a_7, .ref a_8, .int 0, .ref a_9, .ref a_10, .int 0, .int 0, .ref a_11, .ref a_12, .int 0, .ref a_13, .ref a_14, .int 0, .long 0, .long 0, .int 0, .int 0, .int 0, .int 0, .int 0, .ref a_15, .int 0, .int 0, .ref a_16, .int 1, .ref a_17, .ref a_18, .ref a_19, .int 0, .ref a_20, .ref a_21, .long 0, .ref a_22, .int 0])), (a_2, .inl (G.2 0, 5740, .inl (upd (upd (upd (fun _ => 0) 3 (-1)) 4 1000) 6 (-1)))), (a_19, .inl (G.2 0, 1536, .inl (fun _ => 0))), (a_17, .inl (G.2 1, 49152, .inr (.inl z11))), (a_18, .inl (G.2 1, 49152, .inr (.inl z12)))] H := hP
            have hD : va_D A [(a_y, .inr (12, [.int 0, .int 0, .ref a_1, .ref a_2, .ref a_3, .ref a_4, .int 0, .ref a_5, .int 0, .int 0, .int 0, .int 0, .long 0, .int (-1), .int 0, .int 0, .ref a_6, .int 0, .ref a_7, .ref a_8, .int 0, .ref a_9, .ref a_10, .int 0, .int 0, .ref a_11, .ref a_12, .int 0, .ref a_13, .ref a_14, .int 0, .long 0, .long 0, .int 0, .int 0, .int 0, .int 0, .int 0, .ref a_15, .int 0, .int 0, .ref a_16, .int 1, .ref a_17, .ref a_18, .ref a_19, .int 0, .ref a_20, .ref a_21, .long 0, .ref a_22, .int 0])), (a_2, .inl (G.2 0, 5740, .inl (upd (upd (upd (fun _ => 0) 3 (-1)) 4 1000) 6 (-1)))), (a_19, .inl (G.2 0, 1536, .inl (fun _ => 0))), (a_17, .inl (G.2 1, 49152, .inr (.inl z11))), (a_18, .inl (G.2 1, 49152, .inr (.inl z12)))] := hD
            refine lv_iload hx hb dX12_could_51 (lv_at hl 1 rfl) ?_
            refine lv_bipush (v := 64) hx hb dX12_could_53 (by decide) ?_
            refine lv_icmp_ge (tgt := 84) hx hb dX12_could_55 (by decide) (fun c_17 => ?_) (fun c_17 => ?_)
            ·
              have i_17 : k_c.toInt ≥ 64 := by have z := g5_ge (a := k_c.toInt) (b := 64) (by rfl) (by decide) c_17; omega
              refine lv_lload_n hx hb dX12_could_84 rfl (lv_at hl 0 rfl) ?_
              exact W.lret (v := k_n) hx hb hr (fun t ht hW => ⟨⟨k_n, [], rfl, ⟨k_n, g5_could64n (by omega) (by omega) (by omega), rfl, rfl⟩, by rw [ht]; exact hP.sub [] rfl, hD.sub [] (by decide) rfl⟩, hS.F ht⟩) hS.2.2 dX12_could_85
            ·
              have i_17 : k_c.toInt < 64 := by have z := g5_geN (a := k_c.toInt) (b := 64) (by rfl) (by decide) c_17; omega
              refine lv_lload_n hx hb dX12_could_58 rfl (lv_at hl 0 rfl) ?_
              refine lv_aload_n hx hb dX12_could_59 rfl (lv_at hl 2 rfl) ?_
              refine lv_iload_n hx hb dX12_could_60 rfl (lv_at hl 3 rfl) ?_
              refine lv_iload hx hb dX12_could_61 (lv_at hl 1 rfl) ?_
              have hPc := hP.sub (ws' := [(a_y, .inr (12, [.int 0, .int 0, .ref a_1, .ref a_2, .ref a_3, .ref a_4, .int 0, .ref a_5, .int 0, .int 0, .int 0, .int 0, .long 0, .int (-1), .int 0, .int 0, .ref a_6, .int 0, .ref a_7, .ref a_8, .int 0, .ref a_9, .ref a_10, .int 0, .int 0, .ref a_11, .ref a_12, .int 0, .ref a_13, .ref a_14, .int 0, .long 0, .long 0, .int 0, .int 0, .int 0, .int 0, .int 0, .ref a_15, .int 0, .int 0, .ref a_16, .int 1, .ref a_17, .ref a_18, .ref a_19, .int 0, .ref a_20, .ref a_21, .long 0, .ref a_22, .int 0])), (a_17, .inl (G.2 1, 49152, .inr (.inl z11))), (a_18, .inl (G.2 1, 49152, .inr (.inl z12)))]) [0, 3, 4] rfl
              have hDc := hD.sub (ws' := [(a_y, .inr (12, [.int 0, .int 0, .ref a_1, .ref a_2, .ref a_3, .ref a_4, .int 0, .ref a_5, .int 0, .int 0, .int 0, .int 0, .long 0, .int (-1), .int 0, .int 0, .ref a_6, .int 0, .ref a_7, .ref a_8, .int 0, .ref a_9, .ref a_10, .int 0, .int 0, .ref a_11, .ref a_12, .int 0, .ref a_13, .ref a_14, .int 0, .long 0, .long 0, .int 0, .int 0, .int 0, .int 0, .int 0, .ref a_15, .int 0, .int 0, .ref a_16, .int 1, .ref a_17, .ref a_18, .ref a_19, .int 0, .ref a_20, .ref a_21, .long 0, .ref a_22, .int 0])), (a_17, .inl (G.2 1, 49152, .inr (.inl z11))), (a_18, .inl (G.2 1, 49152, .inr (.inl z12)))]) [0, 3, 4] (by decide) rfl
              have hFc := va_free (wc := [(a_y, .inr (12, [.int 0, .int 0, .ref a_1, .ref a_2, .ref a_3, .ref a_4, .int 0, .ref a_5, .int 0, .int 0, .int 0, .int 0, .long 0, .int (-1), .int 0, .int 0, .ref a_6, .int 0, .ref a_7, .ref a_8, .int 0, .ref a_9, .ref a_10, .int 0, .int 0, .ref a_11, .ref a_12, .int 0, .ref a_13, .ref a_14, .int 0, .long 0, .long 0, .int 0, .int 0, .int 0, .int 0, .int 0, .ref a_15, .int 0, .int 0, .ref a_16, .int 1, .ref a_17, .ref a_18, .ref a_19, .int 0, .ref a_20, .ref a_21, .long 0, .ref a_22, .int 0])), (a_17, .inl (G.2 1, 49152, .inr (.inl z11))), (a_18, .inl (G.2 1, 49152, .inr (.inl z12)))]) hD hS hA [0, 3, 4] rfl
              refine va_calll (va_runV (As := [.int p_h, .int k_c]) (rest := [.long k_n]) ⟨hx, hb, hml, hown, hts⟩ (k_rowsAt l G a_y a_17 a_18 a_1 a_2 a_3 a_4 a_5 a_6 a_7 a_8 a_9 a_10 a_11 a_12 a_13 a_14 a_15 a_16 a_19 a_20 a_21 a_22 H.size 0 0 0 0 0 0 0 1 p_h k_c z11 z12 ⟨by decide, by decide⟩ ⟨by omega, by omega⟩ ⟨by omega, by omega⟩) (cwV 2 hts gV_X12_440 rfl rfl rfl hv_X12_rowsAt ⟨Nat.le_of_ble_eq_true rfl, Nat.le_of_ble_eq_true rfl⟩) (g5_preV hPc hK hDc hN hT hS hFc (ci := 12) (q0 := 0) rfl rfl) rfl rfl hl.1 rfl (lv_room (Nat.le_of_ble_eq_true rfl)) dX12_could_63 ⟨Nat.le_of_ble_eq_true rfl, Nat.le_of_ble_eq_true rfl⟩) hS (fun q _ h => hFc q h) hFc (fun r u t H1 locs ht hvm hw hB hz1 hk1 hS => ?_)
              obtain ⟨hP1, hD1⟩ := hB
              rw [ht] at hP1
              obtain ⟨z19, i_18, y20, rfl⟩ := hw
              have i_18 : z19 = rwF z11 z12 (32 * (64 * p_h.toInt + k_c.toInt)) 32 := i_18
              obtain ⟨hP, hD⟩ := va_join (wr := [(a_2, .inl (G.2 0, 5740, .inl (upd (upd (upd (fun _ => 0) 3 (-1)) 4 1000) 6 (-1)))), (a_19, .inl (G.2 0, 1536, .inl (fun _ => 0)))]) (w1 := [(a_y, .inr (12, [.int 0, .int 0, .ref a_1, .ref a_2, .ref a_3, .ref a_4, .int 0, .ref a_5, .int 0, .int 0, .int 0, .int 0, .long 0, .int (-1), .int 0, .int 0, .ref a_6, .int 0, .ref a_7, .ref a_8, .int 0, .ref a_9, .ref a_10, .int 0, .int 0, .ref a_11, .ref a_12, .int 0, .ref a_13, .ref a_14, .int 0, .long 0, .long 0, .int 0, .int 0, .int 0, .int 0, .int 0, .ref a_15, .int 0, .int 0, .ref a_16, .int 1, .ref a_17, .ref a_18, .ref a_19, .int 0, .ref a_20, .ref a_21, .long 0, .ref a_22, .int 0])), (a_17, .inl (G.2 1, 49152, .inr (.inl z11))), (a_18, .inl (G.2 1, 49152, .inr (.inl z12)))]) hP hD [0, 3, 4] [1, 2] rfl rfl (by decide) (by decide) hk1 hFc hP1 hD1
              generalize H1 = H at hP hS ⊢
              have hP : va_P G.1 vwCl [(a_2, .inl (G.2 0, 5740, .inl (upd (upd (upd (fun _ => 0) 3 (-1)) 4 1000) 6 (-1)))), (a_19, .inl (G.2 0, 1536, .inl (fun _ => 0))), (a_y, .inr (12, [.int 0, .int 0, .ref a_1, .ref a_2, .ref a_3, .ref a_4, .int 0, .ref a_5, .int 0, .int 0, .int 0, .int 0, .long 0, .int (-1), .int 0, .int 0, .ref a_6, .int 0, .ref a_7, .ref a_8, .int 0, .ref a_9, .ref a_10, .int 0, .int 0, .ref a_11, .ref a_12, .int 0, .ref a_13, .ref a_14, .int 0, .long 0, .long 0, .int 0, .int 0, .int 0, .int 0, .int 0, .ref a_15, .int 0, .int 0, .ref a_16, .int 1, .ref a_17, .ref a_18, .ref a_19, .int 0, .ref a_20, .ref a_21, .long 0, .ref a_22, .int 0])), (a_17, .inl (G.2 1, 49152, .inr (.inl z11))), (a_18, .inl (G.2 1, 49152, .inr (.inl z12)))] H := hP
              have hD : va_D A [(a_2, .inl (G.2 0, 5740, .inl (upd (upd (upd (fun _ => 0) 3 (-1)) 4 1000) 6 (-1)))), (a_19, .inl (G.2 0, 1536, .inl (fun _ => 0))), (a_y, .inr (12, [.int 0, .int 0, .ref a_1, .ref a_2, .ref a_3, .ref a_4, .int 0, .ref a_5, .int 0, .int 0, .int 0, .int 0, .long 0, .int (-1), .int 0, .int 0, .ref a_6, .int 0, .ref a_7, .ref a_8, .int 0, .ref a_9, .ref a_10, .int 0, .int 0, .ref a_11, .ref a_12, .int 0, .ref a_13, .ref a_14, .int 0, .long 0, .long 0, .int 0, .int 0, .int 0, .int 0, .int 0, .ref a_15, .int 0, .int 0, .ref a_16, .int 1, .ref a_17, .ref a_18, .ref a_19, .int 0, .ref a_20, .ref a_21, .long 0, .ref a_22, .int 0])), (a_17, .inl (G.2 1, 49152, .inr (.inl z11))), (a_18, .inl (G.2 1, 49152, .inr (.inl z12)))] := hD
              refine g5_tl (v := z19) y20 ?_
              refine lv_lconst (v := 0) hx hb dX12_could_66 (by decide) ?_
              refine W.lcmp hx hb dX12_could_67 ?_
              refine g5_ti (v := 1) (g5_toc (n := 1) (by decide) (g5_cmppos (g5_rwpos i_9 i_10 i_18 (by have z0 : (0 : Int32).toInt = 0 := (by decide); omega) (by have z0 : (0 : Int32).toInt = 0 := (by decide); omega) (by omega) (by omega)))) ?_
              refine lv_if_le (tgt := 75) hx hb dX12_could_68 (by decide) (fun c_21 => ?_) (fun c_21 => ?_)
              ·
                exact absurd c_21 (by decide)
              ·
                refine lv_lconst (v := 1) hx hb dX12_could_71 (by decide) ?_
                refine lv_goto (tgt := 76) hx hb dX12_could_72 (by decide) ?_
                refine lv_ladd hx hb dX12_could_76 ?_
                refine lv_lstore_n (lv' := [(3, .long (k_n + 1)), (5, .int k_c), (0, .ref a_y), (1, .int p_h), (2, .int p_c)]) hx hb dX12_could_77 rfl hl (by decide) rfl (fun ls hl => ?_)
                refine lv_iinc (v := (k_c + 1)) (lv' := [(5, .int (k_c + 1)), (3, .long (k_n + 1)), (0, .ref a_y), (1, .int p_h), (2, .int p_c)]) hx hb dX12_could_78 hl (k := 1) rfl rfl (by decide) rfl (fun ls hl => ?_)
                have t_22 : (k_c + 1).toInt = k_c.toInt + 1 := g5_iadd (a := k_c.toInt) (b := 1) rfl (by decide) (by omega) (by omega)
                refine lv_goto (tgt := 51) hx hb dX12_could_81 (by decide) ?_
                exact ih_51_16 ((k_c + 1), (k_n + 1)) ls H locs (show Int.toNat (64 - (k_c + 1).toInt) < Int.toNat (64 - k_c.toInt) by omega) ⟨lv_sub hl [1, 0, 2, 3, 4] rfl, hP.sub [2, 0, 1, 3, 4] rfl, hD.sub [2, 0, 1, 3, 4] (by decide) rfl, hS, ⟨by omega, by omega⟩, g5_ln1 i_15 (by omega) (by omega) (by omega)⟩
          ·
            have i_13 : p_c.toInt ≠ (-1) := by have z := g5_eqN (a := p_c.toInt) (b := (-1)) (by rfl) (by decide) c_13; omega
            refine lv_aload_n hx hb dX12_could_39 rfl (lv_at hl 0 rfl) ?_
            refine lv_iload_n hx hb dX12_could_40 rfl (lv_at hl 1 rfl) ?_
            refine lv_iload_n hx hb dX12_could_41 rfl (lv_at hl 2 rfl) ?_
            have hPc := hP.sub (ws' := [(a_y, .inr (12, [.int 0, .int 0, .ref a_1, .ref a_2, .ref a_3, .ref a_4, .int 0, .ref a_5, .int 0, .int 0, .int 0, .int 0, .long 0, .int (-1), .int 0, .int 0, .ref a_6, .int 0, .ref a_7, .ref a_8, .int 0, .ref a_9, .ref a_10, .int 0, .int 0, .ref a_11, .ref a_12, .int 0, .ref a_13, .ref a_14, .int 0, .long 0, .long 0, .int 0, .int 0, .int 0, .int 0, .int 0, .ref a_15, .int 0, .int 0, .ref a_16, .int 1, .ref a_17, .ref a_18, .ref a_19, .int 0, .ref a_20, .ref a_21, .long 0, .ref a_22, .int 0])), (a_17, .inl (G.2 1, 49152, .inr (.inl z11))), (a_18, .inl (G.2 1, 49152, .inr (.inl z12)))]) [0, 3, 4] rfl
            have hDc := hD.sub (ws' := [(a_y, .inr (12, [.int 0, .int 0, .ref a_1, .ref a_2, .ref a_3, .ref a_4, .int 0, .ref a_5, .int 0, .int 0, .int 0, .int 0, .long 0, .int (-1), .int 0, .int 0, .ref a_6, .int 0, .ref a_7, .ref a_8, .int 0, .ref a_9, .ref a_10, .int 0, .int 0, .ref a_11, .ref a_12, .int 0, .ref a_13, .ref a_14, .int 0, .long 0, .long 0, .int 0, .int 0, .int 0, .int 0, .int 0, .ref a_15, .int 0, .int 0, .ref a_16, .int 1, .ref a_17, .ref a_18, .ref a_19, .int 0, .ref a_20, .ref a_21, .long 0, .ref a_22, .int 0])), (a_17, .inl (G.2 1, 49152, .inr (.inl z11))), (a_18, .inl (G.2 1, 49152, .inr (.inl z12)))]) [0, 3, 4] (by decide) rfl
            have hFc := va_free (wc := [(a_y, .inr (12, [.int 0, .int 0, .ref a_1, .ref a_2, .ref a_3, .ref a_4, .int 0, .ref a_5, .int 0, .int 0, .int 0, .int 0, .long 0, .int (-1), .int 0, .int 0, .ref a_6, .int 0, .ref a_7, .ref a_8, .int 0, .ref a_9, .ref a_10, .int 0, .int 0, .ref a_11, .ref a_12, .int 0, .ref a_13, .ref a_14, .int 0, .long 0, .long 0, .int 0, .int 0, .int 0, .int 0, .int 0, .ref a_15, .int 0, .int 0, .ref a_16, .int 1, .ref a_17, .ref a_18, .ref a_19, .int 0, .ref a_20, .ref a_21, .long 0, .ref a_22, .int 0])), (a_17, .inl (G.2 1, 49152, .inr (.inl z11))), (a_18, .inl (G.2 1, 49152, .inr (.inl z12)))]) hD hS hA [0, 3, 4] rfl
            refine va_calll (va_runV (As := [.int p_h, .int p_c]) (rest := []) ⟨hx, hb, hml, hown, hts⟩ (k_rowsAt l G a_y a_17 a_18 a_1 a_2 a_3 a_4 a_5 a_6 a_7 a_8 a_9 a_10 a_11 a_12 a_13 a_14 a_15 a_16 a_19 a_20 a_21 a_22 H.size 0 0 0 0 0 0 0 1 p_h p_c z11 z12 ⟨by decide, by decide⟩ ⟨by omega, by omega⟩ ⟨by omega, by omega⟩) (cwV 2 hts gV_X12_440 rfl rfl rfl hv_X12_rowsAt ⟨Nat.le_of_ble_eq_true rfl, Nat.le_of_ble_eq_true rfl⟩) (g5_preV hPc hK hDc hN hT hS hFc (ci := 12) (q0 := 0) rfl rfl) rfl rfl hl.1 rfl (lv_room (Nat.le_of_ble_eq_true rfl)) dX12_could_42 ⟨Nat.le_of_ble_eq_true rfl, Nat.le_of_ble_eq_true rfl⟩) hS (fun q _ h => hFc q h) hFc (fun r u t H1 locs ht hvm hw hB hz1 hk1 hS => ?_)
            obtain ⟨hP1, hD1⟩ := hB
            rw [ht] at hP1
            obtain ⟨z24, i_23, y25, rfl⟩ := hw
            have i_23 : z24 = rwF z11 z12 (32 * (64 * p_h.toInt + p_c.toInt)) 32 := i_23
            obtain ⟨hP, hD⟩ := va_join (wr := [(a_2, .inl (G.2 0, 5740, .inl (upd (upd (upd (fun _ => 0) 3 (-1)) 4 1000) 6 (-1)))), (a_19, .inl (G.2 0, 1536, .inl (fun _ => 0)))]) (w1 := [(a_y, .inr (12, [.int 0, .int 0, .ref a_1, .ref a_2, .ref a_3, .ref a_4, .int 0, .ref a_5, .int 0, .int 0, .int 0, .int 0, .long 0, .int (-1), .int 0, .int 0, .ref a_6, .int 0, .ref a_7, .ref a_8, .int 0, .ref a_9, .ref a_10, .int 0, .int 0, .ref a_11, .ref a_12, .int 0, .ref a_13, .ref a_14, .int 0, .long 0, .long 0, .int 0, .int 0, .int 0, .int 0, .int 0, .ref a_15, .int 0, .int 0, .ref a_16, .int 1, .ref a_17, .ref a_18, .ref a_19, .int 0, .ref a_20, .ref a_21, .long 0, .ref a_22, .int 0])), (a_17, .inl (G.2 1, 49152, .inr (.inl z11))), (a_18, .inl (G.2 1, 49152, .inr (.inl z12)))]) hP hD [0, 3, 4] [1, 2] rfl rfl (by decide) (by decide) hk1 hFc hP1 hD1
            generalize H1 = H at hP hS ⊢
            have hP : va_P G.1 vwCl [(a_2, .inl (G.2 0, 5740, .inl (upd (upd (upd (fun _ => 0) 3 (-1)) 4 1000) 6 (-1)))), (a_19, .inl (G.2 0, 1536, .inl (fun _ => 0))), (a_y, .inr (12, [.int 0, .int 0, .ref a_1, .ref a_2, .ref a_3, .ref a_4, .int 0, .ref a_5, .int 0, .int 0, .int 0, .int 0, .long 0, .int (-1), .int 0, .int 0, .ref a_6, .int 0, .ref a_7, .ref a_8, .int 0, .ref a_9, .ref a_10, .int 0, .int 0, .ref a_11, .ref a_12, .int 0, .ref a_13, .ref a_14, .int 0, .long 0, .long 0, .int 0, .int 0, .int 0, .int 0, .int 0, .ref a_15, .int 0, .int 0, .ref a_16, .int 1, .ref a_17, .ref a_18, .ref a_19, .int 0, .ref a_20, .ref a_21, .long 0, .ref a_22, .int 0])), (a_17, .inl (G.2 1, 49152, .inr (.inl z11))), (a_18, .inl (G.2 1, 49152, .inr (.inl z12)))] H := hP
            have hD : va_D A [(a_2, .inl (G.2 0, 5740, .inl (upd (upd (upd (fun _ => 0) 3 (-1)) 4 1000) 6 (-1)))), (a_19, .inl (G.2 0, 1536, .inl (fun _ => 0))), (a_y, .inr (12, [.int 0, .int 0, .ref a_1, .ref a_2, .ref a_3, .ref a_4, .int 0, .ref a_5, .int 0, .int 0, .int 0, .int 0, .long 0, .int (-1), .int 0, .int 0, .ref a_6, .int 0, .ref a_7, .ref a_8, .int 0, .ref a_9, .ref a_10, .int 0, .int 0, .ref a_11, .ref a_12, .int 0, .ref a_13, .ref a_14, .int 0, .long 0, .long 0, .int 0, .int 0, .int 0, .int 0, .int 0, .ref a_15, .int 0, .int 0, .ref a_16, .int 1, .ref a_17, .ref a_18, .ref a_19, .int 0, .ref a_20, .ref a_21, .long 0, .ref a_22, .int 0])), (a_17, .inl (G.2 1, 49152, .inr (.inl z11))), (a_18, .inl (G.2 1, 49152, .inr (.inl z12)))] := hD
            refine g5_tl (v := z24) y25 ?_
            exact W.lret (v := z24) hx hb hr (fun t ht hW => ⟨⟨z24, [], rfl, ⟨z24, g5_couldA i_9 i_10 i_23 (by omega) (by omega) (by omega) (by omega), rfl, rfl⟩, by rw [ht]; exact hP.sub [] rfl, hD.sub [] (by decide) rfl⟩, hS.F ht⟩) hS.2.2 dX12_could_45
        ·
          exact absurd c_8 (by decide)
theorem dX12_isStep_0 : decode cX12_isStep 0 = .ok (.iload_n 0, 1) := by decide +kernel
theorem dX12_isStep_1 : decode cX12_isStep 1 = .ok (.iload_n 1, 1) := by decide +kernel
theorem dX12_isStep_2 : decode cX12_isStep 2 = .ok (.if_icmp .ne 7, 3) := by decide +kernel
theorem dX12_isStep_5 : decode cX12_isStep 5 = .ok (.iconst 1, 1) := by decide +kernel
theorem dX12_isStep_6 : decode cX12_isStep 6 = .ok (.goto 4, 3) := by decide +kernel
theorem dX12_isStep_9 : decode cX12_isStep 9 = .ok (.iconst 0, 1) := by decide +kernel
theorem dX12_isStep_10 : decode cX12_isStep 10 = .ok (.istore_n 2, 1) := by decide +kernel
theorem dX12_isStep_11 : decode cX12_isStep 11 = .ok (.iconst 0, 1) := by decide +kernel
theorem dX12_isStep_12 : decode cX12_isStep 12 = .ok (.istore_n 3, 1) := by decide +kernel
theorem dX12_isStep_13 : decode cX12_isStep 13 = .ok (.iload_n 3, 1) := by decide +kernel
theorem dX12_isStep_14 : decode cX12_isStep 14 = .ok (.iconst 4, 1) := by decide +kernel
theorem dX12_isStep_15 : decode cX12_isStep 15 = .ok (.if_icmp .ge 28, 3) := by decide +kernel
theorem dX12_isStep_18 : decode cX12_isStep 18 = .ok (.iload_n 2, 1) := by decide +kernel
theorem dX12_isStep_19 : decode cX12_isStep 19 = .ok (.ifCond .ne 12, 3) := by decide +kernel
theorem dX12_isStep_22 : decode cX12_isStep 22 = .ok (.iload_n 0, 1) := by decide +kernel
theorem dX12_isStep_23 : decode cX12_isStep 23 = .ok (.iload_n 3, 1) := by decide +kernel
theorem dX12_isStep_24 : decode cX12_isStep 24 = .ok (.invokestatic 374, 3) := by decide +kernel
theorem dX12_isStep_27 : decode cX12_isStep 27 = .ok (.iload_n 1, 1) := by decide +kernel
theorem dX12_isStep_28 : decode cX12_isStep 28 = .ok (.if_icmp .ne 7, 3) := by decide +kernel
theorem dX12_isStep_31 : decode cX12_isStep 31 = .ok (.iconst 1, 1) := by decide +kernel
theorem dX12_isStep_32 : decode cX12_isStep 32 = .ok (.goto 4, 3) := by decide +kernel
theorem dX12_isStep_35 : decode cX12_isStep 35 = .ok (.iconst 0, 1) := by decide +kernel
theorem dX12_isStep_36 : decode cX12_isStep 36 = .ok (.istore_n 2, 1) := by decide +kernel
theorem dX12_isStep_37 : decode cX12_isStep 37 = .ok (.iinc 3 1, 3) := by decide +kernel
theorem dX12_isStep_40 : decode cX12_isStep 40 = .ok (.goto (-27), 3) := by decide +kernel
theorem dX12_isStep_43 : decode cX12_isStep 43 = .ok (.iload_n 2, 1) := by decide +kernel
theorem dX12_isStep_44 : decode cX12_isStep 44 = .ok (.ireturn, 1) := by decide +kernel
set_option maxHeartbeats 4000000 in
set_option maxRecDepth 100000 in
theorem kX12_beside_5 (l : Launch) (G : g5_G) (sz : Nat) : Met l yX12_beside (wsG yX12_beside cX12_beside 2 (some .int)) ({ frames := 0, cells := 0, slots := 0, locals := 0 }) (va_Pc [.int 0, .int 0] (g5_P G [] sz)) (va_Qi (fun (r : Int32) (u : va_W) => ((r = (-1)) ∧ (u = []))) (g5_B G (va_A [] sz)) (va_A [] sz)) 0 0 (va_A [] sz) := by
  refine Met.ofW (cc := cX12_beside) (maxL := 2) (ret := (some .int)) (by decide) rfl ?_
  intro p e s m args below meth c s₁ B hml hv
  obtain ⟨rfl, hsz, hP, hK, hD0, hN, hT⟩ := hv
  have hx := B.exec
  have hb := B.bytes
  have hr := B.returns
  have hts : ∀ w ∈ tblG, w.before _ s = true := fun w h => atoms_spec (ws := (wsG yX12_beside cX12_beside 2 (some .int))) B.pre w (List.mem_cons_of_mem _ h)
  have hown : s.vm.findClass RX12 = some m.cls := findClass_of_methodNamed B.named
  have hlocks := B.notSynchronized
  subst hsz
  have hD := hD0.self (sz := s.heap.size)
  generalize hAe : va_A [] s.heap.size = A at hD hT ⊢
  have hA : ∀ q : Nat, s.heap.size ≤ q → A q := fun q h => by rw [← hAe]; exact Or.inr h
  have hS : va_S A s.heap s.heap [] := va_S.rf
  have hP : va_P G.1 vwCl [] s.heap := hP
  have hl := lv_entry ([.int 0, .int 0]) (n := 2) (Nat.le_of_ble_eq_true rfl)
  rw [lg_entry_eq]
  generalize (lg_sl ([.int 0, .int 0]) ++ List.replicate (2 - (lg_sl ([.int 0, .int 0])).length) Slot.unset).toArray = ls at hl ⊢
  have hl : lv_has ls 2 [(0, .int 0), (1, .int 0)] := hl
  refine lv_iload_n hx hb dX12_beside_0 rfl (lv_at hl 1 rfl) ?_
  refine lv_tableIn (tgt := 28) hx hb dX12_beside_1 (by decide) (by decide) rfl (by decide) ?_
  refine lv_iload_n hx hb dX12_beside_28 rfl (lv_at hl 0 rfl) ?_
  refine lv_bipush (v := 8) hx hb dX12_beside_29 (by decide) ?_
  refine lv_icmp_lt (tgt := 41) hx hb dX12_beside_31 (by decide) (fun c_1 => ?_) (fun c_1 => ?_)
  ·
    refine lv_iconst (v := (-1)) hx hb dX12_beside_41 (by decide) ?_
    exact W.iret (v := (-1)) hx hb hr (fun t ht hW => ⟨⟨(-1), [], rfl, ⟨rfl, rfl⟩, by rw [ht]; exact hP, hD⟩, hS.F ht⟩) hS.2.2 dX12_beside_42
  ·
    exact absurd c_1 (by decide)
set_option maxHeartbeats 4000000 in
set_option maxRecDepth 100000 in
theorem kX12_beside_6 (l : Launch) (G : g5_G) (sz : Nat) : Met l yX12_beside (wsG yX12_beside cX12_beside 2 (some .int)) ({ frames := 0, cells := 0, slots := 0, locals := 0 }) (va_Pc [.int 0, .int 1] (g5_P G [] sz)) (va_Qi (fun (r : Int32) (u : va_W) => ((r = 1) ∧ (u = []))) (g5_B G (va_A [] sz)) (va_A [] sz)) 0 0 (va_A [] sz) := by
  refine Met.ofW (cc := cX12_beside) (maxL := 2) (ret := (some .int)) (by decide) rfl ?_
  intro p e s m args below meth c s₁ B hml hv
  obtain ⟨rfl, hsz, hP, hK, hD0, hN, hT⟩ := hv
  have hx := B.exec
  have hb := B.bytes
  have hr := B.returns
  have hts : ∀ w ∈ tblG, w.before _ s = true := fun w h => atoms_spec (ws := (wsG yX12_beside cX12_beside 2 (some .int))) B.pre w (List.mem_cons_of_mem _ h)
  have hown : s.vm.findClass RX12 = some m.cls := findClass_of_methodNamed B.named
  have hlocks := B.notSynchronized
  subst hsz
  have hD := hD0.self (sz := s.heap.size)
  generalize hAe : va_A [] s.heap.size = A at hD hT ⊢
  have hA : ∀ q : Nat, s.heap.size ≤ q → A q := fun q h => by rw [← hAe]; exact Or.inr h
  have hS : va_S A s.heap s.heap [] := va_S.rf
  have hP : va_P G.1 vwCl [] s.heap := hP
  have hl := lv_entry ([.int 0, .int 1]) (n := 2) (Nat.le_of_ble_eq_true rfl)
  rw [lg_entry_eq]
  generalize (lg_sl ([.int 0, .int 1]) ++ List.replicate (2 - (lg_sl ([.int 0, .int 1])).length) Slot.unset).toArray = ls at hl ⊢
  have hl : lv_has ls 2 [(0, .int 0), (1, .int 1)] := hl
  refine lv_iload_n hx hb dX12_beside_0 rfl (lv_at hl 1 rfl) ?_
  refine lv_tableIn (tgt := 43) hx hb dX12_beside_1 (by decide) (by decide) rfl (by decide) ?_
  refine lv_iload_n hx hb dX12_beside_43 rfl (lv_at hl 0 rfl) ?_
  refine lv_bipush (v := 8) hx hb dX12_beside_44 (by decide) ?_
  refine lv_irem hx hb dX12_beside_46 (by decide) ?_
  refine g5_ti (v := 0) (by decide) ?_
  refine lv_bipush (v := 7) hx hb dX12_beside_47 (by decide) ?_
  refine lv_icmp_ge (tgt := 58) hx hb dX12_beside_49 (by decide) (fun c_1 => ?_) (fun c_1 => ?_)
  ·
    exact absurd c_1 (by decide)
  ·
    refine lv_iload_n hx hb dX12_beside_52 rfl (lv_at hl 0 rfl) ?_
    refine lv_iconst (v := 1) hx hb dX12_beside_53 (by decide) ?_
    refine lv_iadd hx hb dX12_beside_54 ?_
    refine g5_ti (v := 1) (by decide) ?_
    refine lv_goto (tgt := 59) hx hb dX12_beside_55 (by decide) ?_
    exact W.iret (v := 1) hx hb hr (fun t ht hW => ⟨⟨1, [], rfl, ⟨rfl, rfl⟩, by rw [ht]; exact hP, hD⟩, hS.F ht⟩) hS.2.2 dX12_beside_59
set_option maxHeartbeats 4000000 in
set_option maxRecDepth 100000 in
theorem kX12_beside_7 (l : Launch) (G : g5_G) (sz : Nat) : Met l yX12_beside (wsG yX12_beside cX12_beside 2 (some .int)) ({ frames := 0, cells := 0, slots := 0, locals := 0 }) (va_Pc [.int 0, .int 2] (g5_P G [] sz)) (va_Qi (fun (r : Int32) (u : va_W) => ((r = 8) ∧ (u = []))) (g5_B G (va_A [] sz)) (va_A [] sz)) 0 0 (va_A [] sz) := by
  refine Met.ofW (cc := cX12_beside) (maxL := 2) (ret := (some .int)) (by decide) rfl ?_
  intro p e s m args below meth c s₁ B hml hv
  obtain ⟨rfl, hsz, hP, hK, hD0, hN, hT⟩ := hv
  have hx := B.exec
  have hb := B.bytes
  have hr := B.returns
  have hts : ∀ w ∈ tblG, w.before _ s = true := fun w h => atoms_spec (ws := (wsG yX12_beside cX12_beside 2 (some .int))) B.pre w (List.mem_cons_of_mem _ h)
  have hown : s.vm.findClass RX12 = some m.cls := findClass_of_methodNamed B.named
  have hlocks := B.notSynchronized
  subst hsz
  have hD := hD0.self (sz := s.heap.size)
  generalize hAe : va_A [] s.heap.size = A at hD hT ⊢
  have hA : ∀ q : Nat, s.heap.size ≤ q → A q := fun q h => by rw [← hAe]; exact Or.inr h
  have hS : va_S A s.heap s.heap [] := va_S.rf
  have hP : va_P G.1 vwCl [] s.heap := hP
  have hl := lv_entry ([.int 0, .int 2]) (n := 2) (Nat.le_of_ble_eq_true rfl)
  rw [lg_entry_eq]
  generalize (lg_sl ([.int 0, .int 2]) ++ List.replicate (2 - (lg_sl ([.int 0, .int 2])).length) Slot.unset).toArray = ls at hl ⊢
  have hl : lv_has ls 2 [(0, .int 0), (1, .int 2)] := hl
  refine lv_iload_n hx hb dX12_beside_0 rfl (lv_at hl 1 rfl) ?_
  refine lv_tableIn (tgt := 60) hx hb dX12_beside_1 (by decide) (by decide) rfl (by decide) ?_
  refine lv_iload_n hx hb dX12_beside_60 rfl (lv_at hl 0 rfl) ?_
  refine lv_bipush (v := 56) hx hb dX12_beside_61 (by decide) ?_
  refine lv_icmp_ge (tgt := 73) hx hb dX12_beside_63 (by decide) (fun c_1 => ?_) (fun c_1 => ?_)
  ·
    exact absurd c_1 (by decide)
  ·
    refine lv_iload_n hx hb dX12_beside_66 rfl (lv_at hl 0 rfl) ?_
    refine lv_bipush (v := 8) hx hb dX12_beside_67 (by decide) ?_
    refine lv_iadd hx hb dX12_beside_69 ?_
    refine g5_ti (v := 8) (by decide) ?_
    refine lv_goto (tgt := 74) hx hb dX12_beside_70 (by decide) ?_
    exact W.iret (v := 8) hx hb hr (fun t ht hW => ⟨⟨8, [], rfl, ⟨rfl, rfl⟩, by rw [ht]; exact hP, hD⟩, hS.F ht⟩) hS.2.2 dX12_beside_74
set_option maxHeartbeats 4000000 in
set_option maxRecDepth 100000 in
theorem kX12_beside_8 (l : Launch) (G : g5_G) (sz : Nat) : Met l yX12_beside (wsG yX12_beside cX12_beside 2 (some .int)) ({ frames := 0, cells := 0, slots := 0, locals := 0 }) (va_Pc [.int 0, .int 3] (g5_P G [] sz)) (va_Qi (fun (r : Int32) (u : va_W) => ((r = (-1)) ∧ (u = []))) (g5_B G (va_A [] sz)) (va_A [] sz)) 0 0 (va_A [] sz) := by
  refine Met.ofW (cc := cX12_beside) (maxL := 2) (ret := (some .int)) (by decide) rfl ?_
  intro p e s m args below meth c s₁ B hml hv
  obtain ⟨rfl, hsz, hP, hK, hD0, hN, hT⟩ := hv
  have hx := B.exec
  have hb := B.bytes
  have hr := B.returns
  have hts : ∀ w ∈ tblG, w.before _ s = true := fun w h => atoms_spec (ws := (wsG yX12_beside cX12_beside 2 (some .int))) B.pre w (List.mem_cons_of_mem _ h)
  have hown : s.vm.findClass RX12 = some m.cls := findClass_of_methodNamed B.named
  have hlocks := B.notSynchronized
  subst hsz
  have hD := hD0.self (sz := s.heap.size)
  generalize hAe : va_A [] s.heap.size = A at hD hT ⊢
  have hA : ∀ q : Nat, s.heap.size ≤ q → A q := fun q h => by rw [← hAe]; exact Or.inr h
  have hS : va_S A s.heap s.heap [] := va_S.rf
  have hP : va_P G.1 vwCl [] s.heap := hP
  have hl := lv_entry ([.int 0, .int 3]) (n := 2) (Nat.le_of_ble_eq_true rfl)
  rw [lg_entry_eq]
  generalize (lg_sl ([.int 0, .int 3]) ++ List.replicate (2 - (lg_sl ([.int 0, .int 3])).length) Slot.unset).toArray = ls at hl ⊢
  have hl : lv_has ls 2 [(0, .int 0), (1, .int 3)] := hl
  refine lv_iload_n hx hb dX12_beside_0 rfl (lv_at hl 1 rfl) ?_
  refine lv_tableOut (tgt := 75) hx hb dX12_beside_1 (by decide) (by decide) ?_
  refine lv_iload_n hx hb dX12_beside_75 rfl (lv_at hl 0 rfl) ?_
  refine lv_bipush (v := 8) hx hb dX12_beside_76 (by decide) ?_
  refine lv_irem hx hb dX12_beside_78 (by decide) ?_
  refine g5_ti (v := 0) (by decide) ?_
  refine lv_if_le (tgt := 88) hx hb dX12_beside_79 (by decide) (fun c_1 => ?_) (fun c_1 => ?_)
  ·
    refine lv_iconst (v := (-1)) hx hb dX12_beside_88 (by decide) ?_
    exact W.iret (v := (-1)) hx hb hr (fun t ht hW => ⟨⟨(-1), [], rfl, ⟨rfl, rfl⟩, by rw [ht]; exact hP, hD⟩, hS.F ht⟩) hS.2.2 dX12_beside_89
  ·
    exact absurd c_1 (by decide)
set_option maxHeartbeats 4000000 in
set_option maxRecDepth 100000 in
theorem k_misStep (l : Launch) (G : g5_G) (sz : Nat) (p_t : Int32) (h_p_t : 0 ≤ p_t.toInt ∧ p_t.toInt ≤ 63) : Met l yX12_isStep (wsG yX12_isStep cX12_isStep 4 (some .boolean)) ({ frames := 1, cells := 0, slots := 0, locals := 21 }) (va_Pc [.int 0, .int p_t] (g5_P G [] sz)) (va_Qi (fun (r : Int32) (u : va_W) => (∃ (o_r : Int32), (0 ≤ o_r.toInt ∧ o_r.toInt ≤ 1) ∧ (p_t.toInt ≠ 0 ∨ o_r.toInt = 1) ∧ (r = o_r) ∧ (u = []))) (g5_B G (va_A [] sz)) (va_A [] sz)) 0 0 (va_A [] sz) := by
  refine Met.ofW (cc := cX12_isStep) (maxL := 4) (ret := (some .boolean)) (by decide) rfl ?_
  intro p e s m args below meth c s₁ B hml hv
  obtain ⟨rfl, hsz, hP, hK, hD0, hN, hT⟩ := hv
  have hx := B.exec
  have hb := B.bytes
  have hr := B.returns
  have hts : ∀ w ∈ tblG, w.before _ s = true := fun w h => atoms_spec (ws := (wsG yX12_isStep cX12_isStep 4 (some .boolean))) B.pre w (List.mem_cons_of_mem _ h)
  have hown : s.vm.findClass RX12 = some m.cls := findClass_of_methodNamed B.named
  have hlocks := B.notSynchronized
  subst hsz
  have hD := hD0.self (sz := s.heap.size)
  generalize hAe : va_A [] s.heap.size = A at hD hT ⊢
  have hA : ∀ q : Nat, s.heap.size ≤ q → A q := fun q h => by rw [← hAe]; exact Or.inr h
  have hS : va_S A s.heap s.heap [] := va_S.rf
  have hP : va_P G.1 vwCl [] s.heap := hP
  have hl := lv_entry ([.int 0, .int p_t]) (n := 4) (Nat.le_of_ble_eq_true rfl)
  rw [lg_entry_eq]
  generalize (lg_sl ([.int 0, .int p_t]) ++ List.replicate (4 - (lg_sl ([.int 0, .int p_t])).length) Slot.unset).toArray = ls at hl ⊢
  have hl : lv_has ls 4 [(0, .int 0), (1, .int p_t)] := hl
  refine lv_iload_n hx hb dX12_isStep_0 rfl (lv_at hl 0 rfl) ?_
  refine lv_iload_n hx hb dX12_isStep_1 rfl (lv_at hl 1 rfl) ?_
  refine lv_icmp_ne (tgt := 9) hx hb dX12_isStep_2 (by decide) (fun c_1 => ?_) (fun c_1 => ?_)
  ·
    have i_1 : 0 ≠ p_t.toInt := by have z := g5_ne (a := 0) (b := p_t.toInt) (by decide) (by rfl) c_1; omega
    refine lv_iconst (v := 0) hx hb dX12_isStep_9 (by decide) ?_
    refine lv_istore_n (lv' := [(2, .int 0), (0, .int 0), (1, .int p_t)]) hx hb dX12_isStep_10 rfl hl (by decide) rfl (fun ls hl => ?_)
    refine lv_iconst (v := 0) hx hb dX12_isStep_11 (by decide) ?_
    refine lv_istore_n (lv' := [(3, .int 0), (2, .int 0), (0, .int 0), (1, .int p_t)]) hx hb dX12_isStep_12 rfl hl (by decide) rfl (fun ls hl => ?_)
    refine lv_iload_n hx hb dX12_isStep_13 rfl (lv_at hl 0 rfl) ?_
    refine lv_iconst (v := 4) hx hb dX12_isStep_14 (by decide) ?_
    refine lv_icmp_ge (tgt := 43) hx hb dX12_isStep_15 (by decide) (fun c_2 => ?_) (fun c_2 => ?_)
    ·
      exact absurd c_2 (by decide)
    ·
      refine lv_iload_n hx hb dX12_isStep_18 rfl (lv_at hl 1 rfl) ?_
      refine lv_if_ne (tgt := 31) hx hb dX12_isStep_19 (by decide) (fun c_3 => ?_) (fun c_3 => ?_)
      ·
        exact absurd c_3 (by decide)
      ·
        refine lv_iload_n hx hb dX12_isStep_22 rfl (lv_at hl 2 rfl) ?_
        refine lv_iload_n hx hb dX12_isStep_23 rfl (lv_at hl 0 rfl) ?_
        have hPc := hP.sub (ws' := []) [] rfl
        have hDc := hD.sub (ws' := []) [] (by decide) rfl
        have hFc := va_free (wc := []) hD hS hA [] rfl
        refine va_calli (va_runS (As := [.int 0, .int 0]) (rest := []) ⟨hx, hb, hml, hown, hts⟩ (kX12_beside_5 l G s.heap.size) (va_cwS 2 hts gS_X12_374 rfl rfl rfl hs_X12_beside ⟨Nat.le_of_ble_eq_true rfl, Nat.le_of_ble_eq_true rfl⟩) (g5_preS hPc hK hDc hN hT hS hFc) rfl rfl hl.1 rfl (lv_room (Nat.le_of_ble_eq_true rfl)) dX12_isStep_24 ⟨Nat.le_of_ble_eq_true rfl, Nat.le_of_ble_eq_true rfl⟩) hS (fun q _ h => hFc q h) hFc (fun r u t H1 locs ht hvm hw hB hz1 hk1 hS => ?_)
        obtain ⟨hP1, hD1⟩ := hB
        rw [ht] at hP1
        obtain ⟨rfl, rfl⟩ := hw
        have hP := g5_same hP hk1
        generalize H1 = H at hP hS ⊢
        refine lv_iload_n hx hb dX12_isStep_27 rfl (lv_at hl 3 rfl) ?_
        refine lv_icmp_ne (tgt := 35) hx hb dX12_isStep_28 (by decide) (fun c_4 => ?_) (fun c_4 => ?_)
        ·
          have i_4 : (-1) ≠ p_t.toInt := by have z := g5_ne (a := (-1)) (b := p_t.toInt) (by decide) (by rfl) c_4; omega
          refine lv_iconst (v := 0) hx hb dX12_isStep_35 (by decide) ?_
          refine lv_istore_n (lv' := [(2, .int 0), (3, .int 0), (0, .int 0), (1, .int p_t)]) hx hb dX12_isStep_36 rfl hl (by decide) rfl (fun ls hl => ?_)
          refine lv_iinc (v := 1) (lv' := [(3, .int 1), (2, .int 0), (0, .int 0), (1, .int p_t)]) hx hb dX12_isStep_37 hl (k := 1) rfl (by decide) (by decide) rfl (fun ls hl => ?_)
          refine lv_goto (tgt := 13) hx hb dX12_isStep_40 (by decide) ?_
          refine lv_iload_n hx hb dX12_isStep_13 rfl (lv_at hl 0 rfl) ?_
          refine lv_iconst (v := 4) hx hb dX12_isStep_14 (by decide) ?_
          refine lv_icmp_ge (tgt := 43) hx hb dX12_isStep_15 (by decide) (fun c_5 => ?_) (fun c_5 => ?_)
          ·
            exact absurd c_5 (by decide)
          ·
            refine lv_iload_n hx hb dX12_isStep_18 rfl (lv_at hl 1 rfl) ?_
            refine lv_if_ne (tgt := 31) hx hb dX12_isStep_19 (by decide) (fun c_6 => ?_) (fun c_6 => ?_)
            ·
              exact absurd c_6 (by decide)
            ·
              refine lv_iload_n hx hb dX12_isStep_22 rfl (lv_at hl 2 rfl) ?_
              refine lv_iload_n hx hb dX12_isStep_23 rfl (lv_at hl 0 rfl) ?_
              have hPc := hP.sub (ws' := []) [] rfl
              have hDc := hD.sub (ws' := []) [] (by decide) rfl
              have hFc := va_free (wc := []) hD hS hA [] rfl
              refine va_calli (va_runS (As := [.int 0, .int 1]) (rest := []) ⟨hx, hb, hml, hown, hts⟩ (kX12_beside_6 l G H.size) (va_cwS 2 hts gS_X12_374 rfl rfl rfl hs_X12_beside ⟨Nat.le_of_ble_eq_true rfl, Nat.le_of_ble_eq_true rfl⟩) (g5_preS hPc hK hDc hN hT hS hFc) rfl rfl hl.1 rfl (lv_room (Nat.le_of_ble_eq_true rfl)) dX12_isStep_24 ⟨Nat.le_of_ble_eq_true rfl, Nat.le_of_ble_eq_true rfl⟩) hS (fun q _ h => hFc q h) hFc (fun r u t H1 locs ht hvm hw hB hz1 hk1 hS => ?_)
              obtain ⟨hP1, hD1⟩ := hB
              rw [ht] at hP1
              obtain ⟨rfl, rfl⟩ := hw
              have hP := g5_same hP hk1
              generalize H1 = H at hP hS ⊢
              refine lv_iload_n hx hb dX12_isStep_27 rfl (lv_at hl 3 rfl) ?_
              refine lv_icmp_ne (tgt := 35) hx hb dX12_isStep_28 (by decide) (fun c_7 => ?_) (fun c_7 => ?_)
              ·
                have i_7 : 1 ≠ p_t.toInt := by have z := g5_ne (a := 1) (b := p_t.toInt) (by decide) (by rfl) c_7; omega
                refine lv_iconst (v := 0) hx hb dX12_isStep_35 (by decide) ?_
                refine lv_istore_n (lv' := [(2, .int 0), (3, .int 1), (0, .int 0), (1, .int p_t)]) hx hb dX12_isStep_36 rfl hl (by decide) rfl (fun ls hl => ?_)
                refine lv_iinc (v := 2) (lv' := [(3, .int 2), (2, .int 0), (0, .int 0), (1, .int p_t)]) hx hb dX12_isStep_37 hl (k := 1) rfl (by decide) (by decide) rfl (fun ls hl => ?_)
                refine lv_goto (tgt := 13) hx hb dX12_isStep_40 (by decide) ?_
                refine lv_iload_n hx hb dX12_isStep_13 rfl (lv_at hl 0 rfl) ?_
                refine lv_iconst (v := 4) hx hb dX12_isStep_14 (by decide) ?_
                refine lv_icmp_ge (tgt := 43) hx hb dX12_isStep_15 (by decide) (fun c_8 => ?_) (fun c_8 => ?_)
                ·
                  exact absurd c_8 (by decide)
                ·
                  refine lv_iload_n hx hb dX12_isStep_18 rfl (lv_at hl 1 rfl) ?_
                  refine lv_if_ne (tgt := 31) hx hb dX12_isStep_19 (by decide) (fun c_9 => ?_) (fun c_9 => ?_)
                  ·
                    exact absurd c_9 (by decide)
                  ·
                    refine lv_iload_n hx hb dX12_isStep_22 rfl (lv_at hl 2 rfl) ?_
                    refine lv_iload_n hx hb dX12_isStep_23 rfl (lv_at hl 0 rfl) ?_
                    have hPc := hP.sub (ws' := []) [] rfl
                    have hDc := hD.sub (ws' := []) [] (by decide) rfl
                    have hFc := va_free (wc := []) hD hS hA [] rfl
                    refine va_calli (va_runS (As := [.int 0, .int 2]) (rest := []) ⟨hx, hb, hml, hown, hts⟩ (kX12_beside_7 l G H.size) (va_cwS 2 hts gS_X12_374 rfl rfl rfl hs_X12_beside ⟨Nat.le_of_ble_eq_true rfl, Nat.le_of_ble_eq_true rfl⟩) (g5_preS hPc hK hDc hN hT hS hFc) rfl rfl hl.1 rfl (lv_room (Nat.le_of_ble_eq_true rfl)) dX12_isStep_24 ⟨Nat.le_of_ble_eq_true rfl, Nat.le_of_ble_eq_true rfl⟩) hS (fun q _ h => hFc q h) hFc (fun r u t H1 locs ht hvm hw hB hz1 hk1 hS => ?_)
                    obtain ⟨hP1, hD1⟩ := hB
                    rw [ht] at hP1
                    obtain ⟨rfl, rfl⟩ := hw
                    have hP := g5_same hP hk1
                    generalize H1 = H at hP hS ⊢
                    refine lv_iload_n hx hb dX12_isStep_27 rfl (lv_at hl 3 rfl) ?_
                    refine lv_icmp_ne (tgt := 35) hx hb dX12_isStep_28 (by decide) (fun c_10 => ?_) (fun c_10 => ?_)
                    ·
                      have i_10 : 8 ≠ p_t.toInt := by have z := g5_ne (a := 8) (b := p_t.toInt) (by decide) (by rfl) c_10; omega
                      refine lv_iconst (v := 0) hx hb dX12_isStep_35 (by decide) ?_
                      refine lv_istore_n (lv' := [(2, .int 0), (3, .int 2), (0, .int 0), (1, .int p_t)]) hx hb dX12_isStep_36 rfl hl (by decide) rfl (fun ls hl => ?_)
                      refine lv_iinc (v := 3) (lv' := [(3, .int 3), (2, .int 0), (0, .int 0), (1, .int p_t)]) hx hb dX12_isStep_37 hl (k := 1) rfl (by decide) (by decide) rfl (fun ls hl => ?_)
                      refine lv_goto (tgt := 13) hx hb dX12_isStep_40 (by decide) ?_
                      refine lv_iload_n hx hb dX12_isStep_13 rfl (lv_at hl 0 rfl) ?_
                      refine lv_iconst (v := 4) hx hb dX12_isStep_14 (by decide) ?_
                      refine lv_icmp_ge (tgt := 43) hx hb dX12_isStep_15 (by decide) (fun c_11 => ?_) (fun c_11 => ?_)
                      ·
                        exact absurd c_11 (by decide)
                      ·
                        refine lv_iload_n hx hb dX12_isStep_18 rfl (lv_at hl 1 rfl) ?_
                        refine lv_if_ne (tgt := 31) hx hb dX12_isStep_19 (by decide) (fun c_12 => ?_) (fun c_12 => ?_)
                        ·
                          exact absurd c_12 (by decide)
                        ·
                          refine lv_iload_n hx hb dX12_isStep_22 rfl (lv_at hl 2 rfl) ?_
                          refine lv_iload_n hx hb dX12_isStep_23 rfl (lv_at hl 0 rfl) ?_
                          have hPc := hP.sub (ws' := []) [] rfl
                          have hDc := hD.sub (ws' := []) [] (by decide) rfl
                          have hFc := va_free (wc := []) hD hS hA [] rfl
                          refine va_calli (va_runS (As := [.int 0, .int 3]) (rest := []) ⟨hx, hb, hml, hown, hts⟩ (kX12_beside_8 l G H.size) (va_cwS 2 hts gS_X12_374 rfl rfl rfl hs_X12_beside ⟨Nat.le_of_ble_eq_true rfl, Nat.le_of_ble_eq_true rfl⟩) (g5_preS hPc hK hDc hN hT hS hFc) rfl rfl hl.1 rfl (lv_room (Nat.le_of_ble_eq_true rfl)) dX12_isStep_24 ⟨Nat.le_of_ble_eq_true rfl, Nat.le_of_ble_eq_true rfl⟩) hS (fun q _ h => hFc q h) hFc (fun r u t H1 locs ht hvm hw hB hz1 hk1 hS => ?_)
                          obtain ⟨hP1, hD1⟩ := hB
                          rw [ht] at hP1
                          obtain ⟨rfl, rfl⟩ := hw
                          have hP := g5_same hP hk1
                          generalize H1 = H at hP hS ⊢
                          refine lv_iload_n hx hb dX12_isStep_27 rfl (lv_at hl 3 rfl) ?_
                          refine lv_icmp_ne (tgt := 35) hx hb dX12_isStep_28 (by decide) (fun c_13 => ?_) (fun c_13 => ?_)
                          ·
                            have i_13 : (-1) ≠ p_t.toInt := by have z := g5_ne (a := (-1)) (b := p_t.toInt) (by decide) (by rfl) c_13; omega
                            refine lv_iconst (v := 0) hx hb dX12_isStep_35 (by decide) ?_
                            refine lv_istore_n (lv' := [(2, .int 0), (3, .int 3), (0, .int 0), (1, .int p_t)]) hx hb dX12_isStep_36 rfl hl (by decide) rfl (fun ls hl => ?_)
                            refine lv_iinc (v := 4) (lv' := [(3, .int 4), (2, .int 0), (0, .int 0), (1, .int p_t)]) hx hb dX12_isStep_37 hl (k := 1) rfl (by decide) (by decide) rfl (fun ls hl => ?_)
                            refine lv_goto (tgt := 13) hx hb dX12_isStep_40 (by decide) ?_
                            refine lv_iload_n hx hb dX12_isStep_13 rfl (lv_at hl 0 rfl) ?_
                            refine lv_iconst (v := 4) hx hb dX12_isStep_14 (by decide) ?_
                            refine lv_icmp_ge (tgt := 43) hx hb dX12_isStep_15 (by decide) (fun c_14 => ?_) (fun c_14 => ?_)
                            ·
                              refine lv_iload_n hx hb dX12_isStep_43 rfl (lv_at hl 1 rfl) ?_
                              exact W.zret (v := 0) hx hb hr rfl (fun t ht hW => ⟨⟨0, [], rfl, ⟨0, ⟨by decide, by decide⟩, Or.inl (by omega), rfl, rfl⟩, by rw [ht]; exact hP.sub [] rfl, hD.sub [] (by decide) rfl⟩, hS.F ht⟩) hS.2.2 dX12_isStep_44
                            ·
                              exact absurd c_14 (by decide)
                          ·
                            have i_13 : (-1) = p_t.toInt := by have z := g5_neN (a := (-1)) (b := p_t.toInt) (by decide) (by rfl) c_13; omega
                            omega
                    ·
                      have i_10 : 8 = p_t.toInt := by have z := g5_neN (a := 8) (b := p_t.toInt) (by decide) (by rfl) c_10; omega
                      refine lv_iconst (v := 1) hx hb dX12_isStep_31 (by decide) ?_
                      refine lv_goto (tgt := 36) hx hb dX12_isStep_32 (by decide) ?_
                      refine lv_istore_n (lv' := [(2, .int 1), (3, .int 2), (0, .int 0), (1, .int p_t)]) hx hb dX12_isStep_36 rfl hl (by decide) rfl (fun ls hl => ?_)
                      refine lv_iinc (v := 3) (lv' := [(3, .int 3), (2, .int 1), (0, .int 0), (1, .int p_t)]) hx hb dX12_isStep_37 hl (k := 1) rfl (by decide) (by decide) rfl (fun ls hl => ?_)
                      refine lv_goto (tgt := 13) hx hb dX12_isStep_40 (by decide) ?_
                      refine lv_iload_n hx hb dX12_isStep_13 rfl (lv_at hl 0 rfl) ?_
                      refine lv_iconst (v := 4) hx hb dX12_isStep_14 (by decide) ?_
                      refine lv_icmp_ge (tgt := 43) hx hb dX12_isStep_15 (by decide) (fun c_15 => ?_) (fun c_15 => ?_)
                      ·
                        exact absurd c_15 (by decide)
                      ·
                        refine lv_iload_n hx hb dX12_isStep_18 rfl (lv_at hl 1 rfl) ?_
                        refine lv_if_ne (tgt := 31) hx hb dX12_isStep_19 (by decide) (fun c_16 => ?_) (fun c_16 => ?_)
                        ·
                          refine lv_iconst (v := 1) hx hb dX12_isStep_31 (by decide) ?_
                          refine lv_goto (tgt := 36) hx hb dX12_isStep_32 (by decide) ?_
                          refine lv_istore_n (lv' := [(2, .int 1), (3, .int 3), (0, .int 0), (1, .int p_t)]) hx hb dX12_isStep_36 rfl hl (by decide) rfl (fun ls hl => ?_)
                          refine lv_iinc (v := 4) (lv' := [(3, .int 4), (2, .int 1), (0, .int 0), (1, .int p_t)]) hx hb dX12_isStep_37 hl (k := 1) rfl (by decide) (by decide) rfl (fun ls hl => ?_)
                          refine lv_goto (tgt := 13) hx hb dX12_isStep_40 (by decide) ?_
                          refine lv_iload_n hx hb dX12_isStep_13 rfl (lv_at hl 0 rfl) ?_
                          refine lv_iconst (v := 4) hx hb dX12_isStep_14 (by decide) ?_
                          refine lv_icmp_ge (tgt := 43) hx hb dX12_isStep_15 (by decide) (fun c_17 => ?_) (fun c_17 => ?_)
                          ·
                            refine lv_iload_n hx hb dX12_isStep_43 rfl (lv_at hl 1 rfl) ?_
                            exact W.zret (v := 1) hx hb hr rfl (fun t ht hW => ⟨⟨1, [], rfl, ⟨1, ⟨by decide, by decide⟩, Or.inr (by decide), rfl, rfl⟩, by rw [ht]; exact hP.sub [] rfl, hD.sub [] (by decide) rfl⟩, hS.F ht⟩) hS.2.2 dX12_isStep_44
                          ·
                            exact absurd c_17 (by decide)
                        ·
                          exact absurd c_16 (by decide)
              ·
                have i_7 : 1 = p_t.toInt := by have z := g5_neN (a := 1) (b := p_t.toInt) (by decide) (by rfl) c_7; omega
                refine lv_iconst (v := 1) hx hb dX12_isStep_31 (by decide) ?_
                refine lv_goto (tgt := 36) hx hb dX12_isStep_32 (by decide) ?_
                refine lv_istore_n (lv' := [(2, .int 1), (3, .int 1), (0, .int 0), (1, .int p_t)]) hx hb dX12_isStep_36 rfl hl (by decide) rfl (fun ls hl => ?_)
                refine lv_iinc (v := 2) (lv' := [(3, .int 2), (2, .int 1), (0, .int 0), (1, .int p_t)]) hx hb dX12_isStep_37 hl (k := 1) rfl (by decide) (by decide) rfl (fun ls hl => ?_)
                refine lv_goto (tgt := 13) hx hb dX12_isStep_40 (by decide) ?_
                refine lv_iload_n hx hb dX12_isStep_13 rfl (lv_at hl 0 rfl) ?_
                refine lv_iconst (v := 4) hx hb dX12_isStep_14 (by decide) ?_
                refine lv_icmp_ge (tgt := 43) hx hb dX12_isStep_15 (by decide) (fun c_18 => ?_) (fun c_18 => ?_)
                ·
                  exact absurd c_18 (by decide)
                ·
                  refine lv_iload_n hx hb dX12_isStep_18 rfl (lv_at hl 1 rfl) ?_
                  refine lv_if_ne (tgt := 31) hx hb dX12_isStep_19 (by decide) (fun c_19 => ?_) (fun c_19 => ?_)
                  ·
                    refine lv_iconst (v := 1) hx hb dX12_isStep_31 (by decide) ?_
                    refine lv_goto (tgt := 36) hx hb dX12_isStep_32 (by decide) ?_
                    refine lv_istore_n (lv' := [(2, .int 1), (3, .int 2), (0, .int 0), (1, .int p_t)]) hx hb dX12_isStep_36 rfl hl (by decide) rfl (fun ls hl => ?_)
                    refine lv_iinc (v := 3) (lv' := [(3, .int 3), (2, .int 1), (0, .int 0), (1, .int p_t)]) hx hb dX12_isStep_37 hl (k := 1) rfl (by decide) (by decide) rfl (fun ls hl => ?_)
                    refine lv_goto (tgt := 13) hx hb dX12_isStep_40 (by decide) ?_
                    refine lv_iload_n hx hb dX12_isStep_13 rfl (lv_at hl 0 rfl) ?_
                    refine lv_iconst (v := 4) hx hb dX12_isStep_14 (by decide) ?_
                    refine lv_icmp_ge (tgt := 43) hx hb dX12_isStep_15 (by decide) (fun c_20 => ?_) (fun c_20 => ?_)
                    ·
                      exact absurd c_20 (by decide)
                    ·
                      refine lv_iload_n hx hb dX12_isStep_18 rfl (lv_at hl 1 rfl) ?_
                      refine lv_if_ne (tgt := 31) hx hb dX12_isStep_19 (by decide) (fun c_21 => ?_) (fun c_21 => ?_)
                      ·
                        refine lv_iconst (v := 1) hx hb dX12_isStep_31 (by decide) ?_
                        refine lv_goto (tgt := 36) hx hb dX12_isStep_32 (by decide) ?_
                        refine lv_istore_n (lv' := [(2, .int 1), (3, .int 3), (0, .int 0), (1, .int p_t)]) hx hb dX12_isStep_36 rfl hl (by decide) rfl (fun ls hl => ?_)
                        refine lv_iinc (v := 4) (lv' := [(3, .int 4), (2, .int 1), (0, .int 0), (1, .int p_t)]) hx hb dX12_isStep_37 hl (k := 1) rfl (by decide) (by decide) rfl (fun ls hl => ?_)
                        refine lv_goto (tgt := 13) hx hb dX12_isStep_40 (by decide) ?_
                        refine lv_iload_n hx hb dX12_isStep_13 rfl (lv_at hl 0 rfl) ?_
                        refine lv_iconst (v := 4) hx hb dX12_isStep_14 (by decide) ?_
                        refine lv_icmp_ge (tgt := 43) hx hb dX12_isStep_15 (by decide) (fun c_22 => ?_) (fun c_22 => ?_)
                        ·
                          refine lv_iload_n hx hb dX12_isStep_43 rfl (lv_at hl 1 rfl) ?_
                          exact W.zret (v := 1) hx hb hr rfl (fun t ht hW => ⟨⟨1, [], rfl, ⟨1, ⟨by decide, by decide⟩, Or.inr (by decide), rfl, rfl⟩, by rw [ht]; exact hP.sub [] rfl, hD.sub [] (by decide) rfl⟩, hS.F ht⟩) hS.2.2 dX12_isStep_44
                        ·
                          exact absurd c_22 (by decide)
                      ·
                        exact absurd c_21 (by decide)
                  ·
                    exact absurd c_19 (by decide)
        ·
          have i_4 : (-1) = p_t.toInt := by have z := g5_neN (a := (-1)) (b := p_t.toInt) (by decide) (by rfl) c_4; omega
          omega
  ·
    have i_1 : 0 = p_t.toInt := by have z := g5_neN (a := 0) (b := p_t.toInt) (by decide) (by rfl) c_1; omega
    refine lv_iconst (v := 1) hx hb dX12_isStep_5 (by decide) ?_
    refine lv_goto (tgt := 10) hx hb dX12_isStep_6 (by decide) ?_
    refine lv_istore_n (lv' := [(2, .int 1), (0, .int 0), (1, .int p_t)]) hx hb dX12_isStep_10 rfl hl (by decide) rfl (fun ls hl => ?_)
    refine lv_iconst (v := 0) hx hb dX12_isStep_11 (by decide) ?_
    refine lv_istore_n (lv' := [(3, .int 0), (2, .int 1), (0, .int 0), (1, .int p_t)]) hx hb dX12_isStep_12 rfl hl (by decide) rfl (fun ls hl => ?_)
    refine lv_iload_n hx hb dX12_isStep_13 rfl (lv_at hl 0 rfl) ?_
    refine lv_iconst (v := 4) hx hb dX12_isStep_14 (by decide) ?_
    refine lv_icmp_ge (tgt := 43) hx hb dX12_isStep_15 (by decide) (fun c_23 => ?_) (fun c_23 => ?_)
    ·
      exact absurd c_23 (by decide)
    ·
      refine lv_iload_n hx hb dX12_isStep_18 rfl (lv_at hl 1 rfl) ?_
      refine lv_if_ne (tgt := 31) hx hb dX12_isStep_19 (by decide) (fun c_24 => ?_) (fun c_24 => ?_)
      ·
        refine lv_iconst (v := 1) hx hb dX12_isStep_31 (by decide) ?_
        refine lv_goto (tgt := 36) hx hb dX12_isStep_32 (by decide) ?_
        refine lv_istore_n (lv' := [(2, .int 1), (3, .int 0), (0, .int 0), (1, .int p_t)]) hx hb dX12_isStep_36 rfl hl (by decide) rfl (fun ls hl => ?_)
        refine lv_iinc (v := 1) (lv' := [(3, .int 1), (2, .int 1), (0, .int 0), (1, .int p_t)]) hx hb dX12_isStep_37 hl (k := 1) rfl (by decide) (by decide) rfl (fun ls hl => ?_)
        refine lv_goto (tgt := 13) hx hb dX12_isStep_40 (by decide) ?_
        refine lv_iload_n hx hb dX12_isStep_13 rfl (lv_at hl 0 rfl) ?_
        refine lv_iconst (v := 4) hx hb dX12_isStep_14 (by decide) ?_
        refine lv_icmp_ge (tgt := 43) hx hb dX12_isStep_15 (by decide) (fun c_25 => ?_) (fun c_25 => ?_)
        ·
          exact absurd c_25 (by decide)
        ·
          refine lv_iload_n hx hb dX12_isStep_18 rfl (lv_at hl 1 rfl) ?_
          refine lv_if_ne (tgt := 31) hx hb dX12_isStep_19 (by decide) (fun c_26 => ?_) (fun c_26 => ?_)
          ·
            refine lv_iconst (v := 1) hx hb dX12_isStep_31 (by decide) ?_
            refine lv_goto (tgt := 36) hx hb dX12_isStep_32 (by decide) ?_
            refine lv_istore_n (lv' := [(2, .int 1), (3, .int 1), (0, .int 0), (1, .int p_t)]) hx hb dX12_isStep_36 rfl hl (by decide) rfl (fun ls hl => ?_)
            refine lv_iinc (v := 2) (lv' := [(3, .int 2), (2, .int 1), (0, .int 0), (1, .int p_t)]) hx hb dX12_isStep_37 hl (k := 1) rfl (by decide) (by decide) rfl (fun ls hl => ?_)
            refine lv_goto (tgt := 13) hx hb dX12_isStep_40 (by decide) ?_
            refine lv_iload_n hx hb dX12_isStep_13 rfl (lv_at hl 0 rfl) ?_
            refine lv_iconst (v := 4) hx hb dX12_isStep_14 (by decide) ?_
            refine lv_icmp_ge (tgt := 43) hx hb dX12_isStep_15 (by decide) (fun c_27 => ?_) (fun c_27 => ?_)
            ·
              exact absurd c_27 (by decide)
            ·
              refine lv_iload_n hx hb dX12_isStep_18 rfl (lv_at hl 1 rfl) ?_
              refine lv_if_ne (tgt := 31) hx hb dX12_isStep_19 (by decide) (fun c_28 => ?_) (fun c_28 => ?_)
              ·
                refine lv_iconst (v := 1) hx hb dX12_isStep_31 (by decide) ?_
                refine lv_goto (tgt := 36) hx hb dX12_isStep_32 (by decide) ?_
                refine lv_istore_n (lv' := [(2, .int 1), (3, .int 2), (0, .int 0), (1, .int p_t)]) hx hb dX12_isStep_36 rfl hl (by decide) rfl (fun ls hl => ?_)
                refine lv_iinc (v := 3) (lv' := [(3, .int 3), (2, .int 1), (0, .int 0), (1, .int p_t)]) hx hb dX12_isStep_37 hl (k := 1) rfl (by decide) (by decide) rfl (fun ls hl => ?_)
                refine lv_goto (tgt := 13) hx hb dX12_isStep_40 (by decide) ?_
                refine lv_iload_n hx hb dX12_isStep_13 rfl (lv_at hl 0 rfl) ?_
                refine lv_iconst (v := 4) hx hb dX12_isStep_14 (by decide) ?_
                refine lv_icmp_ge (tgt := 43) hx hb dX12_isStep_15 (by decide) (fun c_29 => ?_) (fun c_29 => ?_)
                ·
                  exact absurd c_29 (by decide)
                ·
                  refine lv_iload_n hx hb dX12_isStep_18 rfl (lv_at hl 1 rfl) ?_
                  refine lv_if_ne (tgt := 31) hx hb dX12_isStep_19 (by decide) (fun c_30 => ?_) (fun c_30 => ?_)
                  ·
                    refine lv_iconst (v := 1) hx hb dX12_isStep_31 (by decide) ?_
                    refine lv_goto (tgt := 36) hx hb dX12_isStep_32 (by decide) ?_
                    refine lv_istore_n (lv' := [(2, .int 1), (3, .int 3), (0, .int 0), (1, .int p_t)]) hx hb dX12_isStep_36 rfl hl (by decide) rfl (fun ls hl => ?_)
                    refine lv_iinc (v := 4) (lv' := [(3, .int 4), (2, .int 1), (0, .int 0), (1, .int p_t)]) hx hb dX12_isStep_37 hl (k := 1) rfl (by decide) (by decide) rfl (fun ls hl => ?_)
                    refine lv_goto (tgt := 13) hx hb dX12_isStep_40 (by decide) ?_
                    refine lv_iload_n hx hb dX12_isStep_13 rfl (lv_at hl 0 rfl) ?_
                    refine lv_iconst (v := 4) hx hb dX12_isStep_14 (by decide) ?_
                    refine lv_icmp_ge (tgt := 43) hx hb dX12_isStep_15 (by decide) (fun c_31 => ?_) (fun c_31 => ?_)
                    ·
                      refine lv_iload_n hx hb dX12_isStep_43 rfl (lv_at hl 1 rfl) ?_
                      exact W.zret (v := 1) hx hb hr rfl (fun t ht hW => ⟨⟨1, [], rfl, ⟨1, ⟨by decide, by decide⟩, Or.inr (by decide), rfl, rfl⟩, by rw [ht]; exact hP.sub [] rfl, hD.sub [] (by decide) rfl⟩, hS.F ht⟩) hS.2.2 dX12_isStep_44
                    ·
                      exact absurd c_31 (by decide)
                  ·
                    exact absurd c_30 (by decide)
              ·
                exact absurd c_28 (by decide)
          ·
            exact absurd c_26 (by decide)
      ·
        exact absurd c_24 (by decide)
theorem dX12_path_0 : decode cX12_path 0 = .ok (.aload_n 0, 1) := by decide +kernel
theorem dX12_path_1 : decode cX12_path 1 = .ok (.iconst 0, 1) := by decide +kernel
theorem dX12_path_2 : decode cX12_path 2 = .ok (.putfield 107, 3) := by decide +kernel
theorem dX12_path_5 : decode cX12_path 5 = .ok (.iload_n 1, 1) := by decide +kernel
theorem dX12_path_6 : decode cX12_path 6 = .ok (.invokestatic 175, 3) := by decide +kernel
theorem dX12_path_9 : decode cX12_path 9 = .ok (.ifCond .ne 5, 3) := by decide +kernel
theorem dX12_path_12 : decode cX12_path 12 = .ok (.iconst (-1), 1) := by decide +kernel
theorem dX12_path_13 : decode cX12_path 13 = .ok (.ireturn, 1) := by decide +kernel
theorem dX12_path_14 : decode cX12_path 14 = .ok (.aload_n 0, 1) := by decide +kernel
theorem dX12_path_15 : decode cX12_path 15 = .ok (.invokevirtual 444, 3) := by decide +kernel
theorem dX12_path_18 : decode cX12_path 18 = .ok (.iconst (-1), 1) := by decide +kernel
theorem dX12_path_19 : decode cX12_path 19 = .ok (.istore_n 2, 1) := by decide +kernel
theorem dX12_path_20 : decode cX12_path 20 = .ok (.iconst 0, 1) := by decide +kernel
theorem dX12_path_21 : decode cX12_path 21 = .ok (.istore_n 3, 1) := by decide +kernel
theorem dX12_path_22 : decode cX12_path 22 = .ok (.iconst 0, 1) := by decide +kernel
theorem dX12_path_23 : decode cX12_path 23 = .ok (.istore 4, 2) := by decide +kernel
theorem dX12_path_25 : decode cX12_path 25 = .ok (.iload 4, 2) := by decide +kernel
theorem dX12_path_27 : decode cX12_path 27 = .ok (.iload_n 1, 1) := by decide +kernel
theorem dX12_path_28 : decode cX12_path 28 = .ok (.if_icmp .gt 166, 3) := by decide +kernel
theorem dX12_path_31 : decode cX12_path 31 = .ok (.iconst (-1), 1) := by decide +kernel
theorem dX12_path_32 : decode cX12_path 32 = .ok (.istore 5, 2) := by decide +kernel
theorem dX12_path_34 : decode cX12_path 34 = .ok (.bipush 63, 2) := by decide +kernel
theorem dX12_path_36 : decode cX12_path 36 = .ok (.istore 6, 2) := by decide +kernel
theorem dX12_path_38 : decode cX12_path 38 = .ok (.iload 6, 2) := by decide +kernel
theorem dX12_path_40 : decode cX12_path 40 = .ok (.ifCond .lt 122, 3) := by decide +kernel
theorem dX12_path_43 : decode cX12_path 43 = .ok (.iload 4, 2) := by decide +kernel
theorem dX12_path_45 : decode cX12_path 45 = .ok (.ifCond .ne 23, 3) := by decide +kernel
theorem dX12_path_48 : decode cX12_path 48 = .ok (.aload_n 0, 1) := by decide +kernel
theorem dX12_path_49 : decode cX12_path 49 = .ok (.iconst 0, 1) := by decide +kernel
theorem dX12_path_50 : decode cX12_path 50 = .ok (.iload 6, 2) := by decide +kernel
theorem dX12_path_52 : decode cX12_path 52 = .ok (.invokevirtual 440, 3) := by decide +kernel
theorem dX12_path_55 : decode cX12_path 55 = .ok (.lconst 0, 1) := by decide +kernel
theorem dX12_path_56 : decode cX12_path 56 = .ok (.lcmp, 1) := by decide +kernel
theorem dX12_path_57 : decode cX12_path 57 = .ok (.ifCond .le 7, 3) := by decide +kernel
theorem dX12_path_60 : decode cX12_path 60 = .ok (.iconst 1, 1) := by decide +kernel
theorem dX12_path_61 : decode cX12_path 61 = .ok (.goto 79, 3) := by decide +kernel
theorem dX12_path_64 : decode cX12_path 64 = .ok (.iconst 0, 1) := by decide +kernel
theorem dX12_path_65 : decode cX12_path 65 = .ok (.goto 75, 3) := by decide +kernel
theorem dX12_path_68 : decode cX12_path 68 = .ok (.iload_n 2, 1) := by decide +kernel
theorem dX12_path_69 : decode cX12_path 69 = .ok (.iload 6, 2) := by decide +kernel
theorem dX12_path_71 : decode cX12_path 71 = .ok (.invokestatic 454, 3) := by decide +kernel
theorem dX12_path_74 : decode cX12_path 74 = .ok (.ifCond .eq 65, 3) := by decide +kernel
theorem dX12_path_77 : decode cX12_path 77 = .ok (.aload_n 0, 1) := by decide +kernel
theorem dX12_path_78 : decode cX12_path 78 = .ok (.getfield 95, 3) := by decide +kernel
theorem dX12_path_81 : decode cX12_path 81 = .ok (.bipush 64, 2) := by decide +kernel
theorem dX12_path_83 : decode cX12_path 83 = .ok (.iload 4, 2) := by decide +kernel
theorem dX12_path_85 : decode cX12_path 85 = .ok (.imul, 1) := by decide +kernel
theorem dX12_path_86 : decode cX12_path 86 = .ok (.iload 6, 2) := by decide +kernel
theorem dX12_path_88 : decode cX12_path 88 = .ok (.iadd, 1) := by decide +kernel
theorem dX12_path_89 : decode cX12_path 89 = .ok (.iaload, 1) := by decide +kernel
theorem dX12_path_90 : decode cX12_path 90 = .ok (.bipush 64, 2) := by decide +kernel
theorem dX12_path_92 : decode cX12_path 92 = .ok (.if_icmp .ge 47, 3) := by decide +kernel
theorem dX12_path_95 : decode cX12_path 95 = .ok (.aload_n 0, 1) := by decide +kernel
theorem dX12_path_96 : decode cX12_path 96 = .ok (.getfield 92, 3) := by decide +kernel
theorem dX12_path_99 : decode cX12_path 99 = .ok (.bipush 32, 2) := by decide +kernel
theorem dX12_path_101 : decode cX12_path 101 = .ok (.bipush 64, 2) := by decide +kernel
theorem dX12_path_103 : decode cX12_path 103 = .ok (.iload 4, 2) := by decide +kernel
theorem dX12_path_105 : decode cX12_path 105 = .ok (.imul, 1) := by decide +kernel
theorem dX12_path_106 : decode cX12_path 106 = .ok (.iload 6, 2) := by decide +kernel
theorem dX12_path_108 : decode cX12_path 108 = .ok (.iadd, 1) := by decide +kernel
theorem dX12_path_109 : decode cX12_path 109 = .ok (.imul, 1) := by decide +kernel
theorem dX12_path_110 : decode cX12_path 110 = .ok (.iload_n 3, 1) := by decide +kernel
theorem dX12_path_111 : decode cX12_path 111 = .ok (.aload_n 0, 1) := by decide +kernel
theorem dX12_path_112 : decode cX12_path 112 = .ok (.getfield 95, 3) := by decide +kernel
theorem dX12_path_115 : decode cX12_path 115 = .ok (.bipush 64, 2) := by decide +kernel
theorem dX12_path_117 : decode cX12_path 117 = .ok (.iload 4, 2) := by decide +kernel
theorem dX12_path_119 : decode cX12_path 119 = .ok (.imul, 1) := by decide +kernel
theorem dX12_path_120 : decode cX12_path 120 = .ok (.iload 6, 2) := by decide +kernel
theorem dX12_path_122 : decode cX12_path 122 = .ok (.iadd, 1) := by decide +kernel
theorem dX12_path_123 : decode cX12_path 123 = .ok (.iaload, 1) := by decide +kernel
theorem dX12_path_124 : decode cX12_path 124 = .ok (.bipush 31, 2) := by decide +kernel
theorem dX12_path_126 : decode cX12_path 126 = .ok (.iand, 1) := by decide +kernel
theorem dX12_path_127 : decode cX12_path 127 = .ok (.ior, 1) := by decide +kernel
theorem dX12_path_128 : decode cX12_path 128 = .ok (.iadd, 1) := by decide +kernel
theorem dX12_path_129 : decode cX12_path 129 = .ok (.laload, 1) := by decide +kernel
theorem dX12_path_130 : decode cX12_path 130 = .ok (.lconst 0, 1) := by decide +kernel
theorem dX12_path_131 : decode cX12_path 131 = .ok (.lcmp, 1) := by decide +kernel
theorem dX12_path_132 : decode cX12_path 132 = .ok (.ifCond .le 7, 3) := by decide +kernel
theorem dX12_path_135 : decode cX12_path 135 = .ok (.iconst 1, 1) := by decide +kernel
theorem dX12_path_136 : decode cX12_path 136 = .ok (.goto 4, 3) := by decide +kernel
theorem dX12_path_139 : decode cX12_path 139 = .ok (.iconst 0, 1) := by decide +kernel
theorem dX12_path_140 : decode cX12_path 140 = .ok (.istore 7, 2) := by decide +kernel
theorem dX12_path_142 : decode cX12_path 142 = .ok (.iload 7, 2) := by decide +kernel
theorem dX12_path_144 : decode cX12_path 144 = .ok (.ifCond .eq 8, 3) := by decide +kernel
theorem dX12_path_147 : decode cX12_path 147 = .ok (.iload 6, 2) := by decide +kernel
theorem dX12_path_149 : decode cX12_path 149 = .ok (.goto 5, 3) := by decide +kernel
theorem dX12_path_152 : decode cX12_path 152 = .ok (.iload 5, 2) := by decide +kernel
theorem dX12_path_154 : decode cX12_path 154 = .ok (.istore 5, 2) := by decide +kernel
theorem dX12_path_156 : decode cX12_path 156 = .ok (.iinc 6 (-1), 3) := by decide +kernel
theorem dX12_path_159 : decode cX12_path 159 = .ok (.goto (-121), 3) := by decide +kernel
theorem dX12_path_162 : decode cX12_path 162 = .ok (.iload 5, 2) := by decide +kernel
theorem dX12_path_164 : decode cX12_path 164 = .ok (.iconst (-1), 1) := by decide +kernel
theorem dX12_path_165 : decode cX12_path 165 = .ok (.if_icmp .ne 5, 3) := by decide +kernel
theorem dX12_path_168 : decode cX12_path 168 = .ok (.iconst (-1), 1) := by decide +kernel
theorem dX12_path_169 : decode cX12_path 169 = .ok (.ireturn, 1) := by decide +kernel
theorem dX12_path_170 : decode cX12_path 170 = .ok (.iload 5, 2) := by decide +kernel
theorem dX12_path_172 : decode cX12_path 172 = .ok (.istore_n 2, 1) := by decide +kernel
theorem dX12_path_173 : decode cX12_path 173 = .ok (.iload_n 3, 1) := by decide +kernel
theorem dX12_path_174 : decode cX12_path 174 = .ok (.aload_n 0, 1) := by decide +kernel
theorem dX12_path_175 : decode cX12_path 175 = .ok (.getfield 95, 3) := by decide +kernel
theorem dX12_path_178 : decode cX12_path 178 = .ok (.bipush 64, 2) := by decide +kernel
theorem dX12_path_180 : decode cX12_path 180 = .ok (.iload 4, 2) := by decide +kernel
theorem dX12_path_182 : decode cX12_path 182 = .ok (.imul, 1) := by decide +kernel
theorem dX12_path_183 : decode cX12_path 183 = .ok (.iload_n 2, 1) := by decide +kernel
theorem dX12_path_184 : decode cX12_path 184 = .ok (.iadd, 1) := by decide +kernel
theorem dX12_path_185 : decode cX12_path 185 = .ok (.iaload, 1) := by decide +kernel
theorem dX12_path_186 : decode cX12_path 186 = .ok (.ior, 1) := by decide +kernel
theorem dX12_path_187 : decode cX12_path 187 = .ok (.istore_n 3, 1) := by decide +kernel
theorem dX12_path_188 : decode cX12_path 188 = .ok (.iinc 4 1, 3) := by decide +kernel
theorem dX12_path_191 : decode cX12_path 191 = .ok (.goto (-166), 3) := by decide +kernel
theorem dX12_path_194 : decode cX12_path 194 = .ok (.iload_n 2, 1) := by decide +kernel
theorem dX12_path_195 : decode cX12_path 195 = .ok (.ireturn, 1) := by decide +kernel
