theorem kl_X11_340 : Cond.constantLong RX11 340 1103 ∈ tblG := tg 1147 (by decide +kernel) (by decide +kernel)
theorem kl_X11_342 : Cond.constantLong RX11 342 12345 ∈ tblG := tg 1148 (by decide +kernel) (by decide +kernel)
theorem kl_X11_344 : Cond.constantLong RX11 344 1000003 ∈ tblG := tg 1149 (by decide +kernel) (by decide +kernel)
theorem kl_X11_346 : Cond.constantLong RX11 346 5 ∈ tblG := tg 1150 (by decide +kernel) (by decide +kernel)
theorem ml_X11_348 : Cond.methodLink RX11 348 yX11_beside ∈ tblG := tg 1151 (by decide +kernel) (by decide +kernel)
theorem gS_X11_348 : GoodIn tblG (va_wsS RX11 348 yX11_beside (wsG yX11_beside cX11_beside 2 (some .int))) := tgS ml_X11_348 st_X11_beside ini_X11 gW_X11_beside
set_option maxHeartbeats 4000000 in
set_option maxRecDepth 100000 in
theorem k_wander (l : Launch) (G : g5_G) (a_x a_1 a_71 a_47 a_48 a_70 a_5 a_14 a_41 a_42 a_49 a_57 a_58 a_61 a_69 a_2 a_3 a_7 a_9 a_11 a_13 a_6 : Nat) (sz : Nat) (p_s : Int32) (p_c : Int32) : Met l yX11_wander (wsG yX11_wander cX11_wander 9 (some .int)) ({ frames := 2, cells := 0, slots := 0, locals := 48 }) (va_Pc [.ref a_x, .int p_s, .int p_c] (g5_P G [(a_x, .inr (11, [.ref a_1, .ref a_14, .ref a_41, .ref a_42, .ref a_47, .ref a_49, .ref a_57, .ref a_58, .ref a_61, .ref a_69, .int 0, .int 0, .int (-1), .ref a_70, .int 0, .ref a_71, .int 0])), (a_1, .inr (1, [.long 0, .int 1000, .int (-1), .int (-1), .int 0, .ref a_2, .ref a_3, .ref a_5, .ref a_7, .ref a_9, .ref a_11, .long 0, .ref a_13])), (a_71, .inl (G.2 0, 5, .inl (fun _ => 0))), (a_47, .inr (10, [.ref a_1, .ref a_42, .ref a_48])), (a_48, .inl (G.2 1, 24, .inr (.inl (fun _ => 0)))), (a_70, .inl (G.2 0, 24, .inl (fun _ => 0))), (a_5, .inr (6, [.int 5, .int 24, .ref a_6, .int 0]))] sz)) (va_Qi (fun (r : Int32) (u : va_W) => ((p_s.toInt < 0 ∨ 1000000 < p_s.toInt ∨ p_c.toInt < 0 ∨ 63 < p_c.toInt) ∧ (r = (-1)) ∧ (u = [])) ∨ ((0 ≤ p_s.toInt ∧ p_s.toInt ≤ 1000000 ∧ 0 ≤ p_c.toInt ∧ p_c.toInt ≤ 63) ∧ (r = 0) ∧ (u = []))) (g5_B G (va_A [(a_x, .inr (11, [.ref a_1, .ref a_14, .ref a_41, .ref a_42, .ref a_47, .ref a_49, .ref a_57, .ref a_58, .ref a_61, .ref a_69, .int 0, .int 0, .int (-1), .ref a_70, .int 0, .ref a_71, .int 0])), (a_1, .inr (1, [.long 0, .int 1000, .int (-1), .int (-1), .int 0, .ref a_2, .ref a_3, .ref a_5, .ref a_7, .ref a_9, .ref a_11, .long 0, .ref a_13])), (a_71, .inl (G.2 0, 5, .inl (fun _ => 0))), (a_47, .inr (10, [.ref a_1, .ref a_42, .ref a_48])), (a_48, .inl (G.2 1, 24, .inr (.inl (fun _ => 0)))), (a_70, .inl (G.2 0, 24, .inl (fun _ => 0))), (a_5, .inr (6, [.int 5, .int 24, .ref a_6, .int 0]))] sz)) (va_A [(a_x, .inr (11, [.ref a_1, .ref a_14, .ref a_41, .ref a_42, .ref a_47, .ref a_49, .ref a_57, .ref a_58, .ref a_61, .ref a_69, .int 0, .int 0, .int (-1), .ref a_70, .int 0, .ref a_71, .int 0])), (a_1, .inr (1, [.long 0, .int 1000, .int (-1), .int (-1), .int 0, .ref a_2, .ref a_3, .ref a_5, .ref a_7, .ref a_9, .ref a_11, .long 0, .ref a_13])), (a_71, .inl (G.2 0, 5, .inl (fun _ => 0))), (a_47, .inr (10, [.ref a_1, .ref a_42, .ref a_48])), (a_48, .inl (G.2 1, 24, .inr (.inl (fun _ => 0)))), (a_70, .inl (G.2 0, 24, .inl (fun _ => 0))), (a_5, .inr (6, [.int 5, .int 24, .ref a_6, .int 0]))] sz)) 0 0 (va_A [(a_x, .inr (11, [.ref a_1, .ref a_14, .ref a_41, .ref a_42, .ref a_47, .ref a_49, .ref a_57, .ref a_58, .ref a_61, .ref a_69, .int 0, .int 0, .int (-1), .ref a_70, .int 0, .ref a_71, .int 0])), (a_1, .inr (1, [.long 0, .int 1000, .int (-1), .int (-1), .int 0, .ref a_2, .ref a_3, .ref a_5, .ref a_7, .ref a_9, .ref a_11, .long 0, .ref a_13])), (a_71, .inl (G.2 0, 5, .inl (fun _ => 0))), (a_47, .inr (10, [.ref a_1, .ref a_42, .ref a_48])), (a_48, .inl (G.2 1, 24, .inr (.inl (fun _ => 0)))), (a_70, .inl (G.2 0, 24, .inl (fun _ => 0))), (a_5, .inr (6, [.int 5, .int 24, .ref a_6, .int 0]))] sz) := by
  refine Met.ofW (cc := cX11_wander) (maxL := 9) (ret := (some .int)) (by decide) rfl ?_
  intro p e s m args below meth c s₁ B hml hv
  obtain ⟨rfl, hsz, hP, hK, hD0, hN, hT⟩ := hv
  have hx := B.exec
  have hb := B.bytes
  have hr := B.returns
  have hts : ∀ w ∈ tblG, w.before _ s = true := fun w h => atoms_spec (ws := (wsG yX11_wander cX11_wander 9 (some .int))) B.pre w (List.mem_cons_of_mem _ h)
  have hown : s.vm.findClass RX11 = some m.cls := findClass_of_methodNamed B.named
  have hlocks := B.notSynchronized
  subst hsz
  have hD := hD0.self (sz := s.heap.size)
  generalize hAe : va_A [(a_x, .inr (11, [.ref a_1, .ref a_14, .ref a_41, .ref a_42, .ref a_47, .ref a_49, .ref a_57, .ref a_58, .ref a_61, .ref a_69, .int 0, .int 0, .int (-1), .ref a_70, .int 0, .ref a_71, .int 0])), (a_1, .inr (1, [.long 0, .int 1000, .int (-1), .int (-1), .int 0, .ref a_2, .ref a_3, .ref a_5, .ref a_7, .ref a_9, .ref a_11, .long 0, .ref a_13])), (a_71, .inl (G.2 0, 5, .inl (fun _ => 0))), (a_47, .inr (10, [.ref a_1, .ref a_42, .ref a_48])), (a_48, .inl (G.2 1, 24, .inr (.inl (fun _ => 0)))), (a_70, .inl (G.2 0, 24, .inl (fun _ => 0))), (a_5, .inr (6, [.int 5, .int 24, .ref a_6, .int 0]))] s.heap.size = A at hD hT ⊢
  have hA : ∀ q : Nat, s.heap.size ≤ q → A q := fun q h => by rw [← hAe]; exact Or.inr h
  have hS : va_S A s.heap s.heap [] := va_S.rf
  have hP : va_P G.1 vwCl [(a_x, .inr (11, [.ref a_1, .ref a_14, .ref a_41, .ref a_42, .ref a_47, .ref a_49, .ref a_57, .ref a_58, .ref a_61, .ref a_69, .int 0, .int 0, .int (-1), .ref a_70, .int 0, .ref a_71, .int 0])), (a_1, .inr (1, [.long 0, .int 1000, .int (-1), .int (-1), .int 0, .ref a_2, .ref a_3, .ref a_5, .ref a_7, .ref a_9, .ref a_11, .long 0, .ref a_13])), (a_71, .inl (G.2 0, 5, .inl (fun _ => 0))), (a_47, .inr (10, [.ref a_1, .ref a_42, .ref a_48])), (a_48, .inl (G.2 1, 24, .inr (.inl (fun _ => 0)))), (a_70, .inl (G.2 0, 24, .inl (fun _ => 0))), (a_5, .inr (6, [.int 5, .int 24, .ref a_6, .int 0]))] s.heap := hP
  have hl := lv_entry ([.ref a_x, .int p_s, .int p_c]) (n := 9) (Nat.le_of_ble_eq_true rfl)
  rw [lg_entry_eq]
  generalize (lg_sl ([.ref a_x, .int p_s, .int p_c]) ++ List.replicate (9 - (lg_sl ([.ref a_x, .int p_s, .int p_c])).length) Slot.unset).toArray = ls at hl ⊢
  have hl : lv_has ls 9 [(0, .ref a_x), (1, .int p_s), (2, .int p_c)] := hl
  refine lv_iload_n hx hb dX11_wander_0 rfl (lv_at hl 1 rfl) ?_
  refine lv_if_lt (tgt := 17) hx hb dX11_wander_1 (by decide) (fun c_1 => ?_) (fun c_1 => ?_)
  ·
    have i_1 : p_s.toInt < 0 := by have z := g5_lt (a := p_s.toInt) (b := 0) (by rfl) (by decide) c_1; omega
    refine lv_aload_n hx hb dX11_wander_17 rfl (lv_at hl 0 rfl) ?_
    refine lv_iconst (v := (-1)) hx hb dX11_wander_18 (by decide) ?_
    have hPc := hP.sub (ws' := [(a_x, .inr (11, [.ref a_1, .ref a_14, .ref a_41, .ref a_42, .ref a_47, .ref a_49, .ref a_57, .ref a_58, .ref a_61, .ref a_69, .int 0, .int 0, .int (-1), .ref a_70, .int 0, .ref a_71, .int 0])), (a_71, .inl (G.2 0, 5, .inl (fun _ => 0)))]) [0, 2] rfl
    have hDc := hD.sub (ws' := [(a_x, .inr (11, [.ref a_1, .ref a_14, .ref a_41, .ref a_42, .ref a_47, .ref a_49, .ref a_57, .ref a_58, .ref a_61, .ref a_69, .int 0, .int 0, .int (-1), .ref a_70, .int 0, .ref a_71, .int 0])), (a_71, .inl (G.2 0, 5, .inl (fun _ => 0)))]) [0, 2] (by decide) rfl
    have hFc := va_free (wc := [(a_x, .inr (11, [.ref a_1, .ref a_14, .ref a_41, .ref a_42, .ref a_47, .ref a_49, .ref a_57, .ref a_58, .ref a_61, .ref a_69, .int 0, .int 0, .int (-1), .ref a_70, .int 0, .ref a_71, .int 0])), (a_71, .inl (G.2 0, 5, .inl (fun _ => 0)))]) hD hS hA [0, 2] rfl
    refine va_calli (va_runV (As := [.int (-1)]) (rest := []) ⟨hx, hb, hml, hown, hts⟩ (kX11_refuse l G a_x a_1 a_14 a_41 a_42 a_47 a_49 a_57 a_58 a_61 a_69 a_70 a_71 s.heap.size) (cwV 1 hts gV_X11_104 rfl rfl rfl hv_X11_refuse ⟨Nat.le_of_ble_eq_true rfl, Nat.le_of_ble_eq_true rfl⟩) (g5_preV hPc hK hDc hN hT hS hFc (ci := 11) (q0 := 0) rfl rfl) rfl rfl hl.1 rfl (lv_room (Nat.le_of_ble_eq_true rfl)) dX11_wander_19 ⟨Nat.le_of_ble_eq_true rfl, Nat.le_of_ble_eq_true rfl⟩) hS (fun q _ h => hFc q h) hFc (fun r u t H1 locs ht hvm hw hB hz1 hk1 hS => ?_)
    obtain ⟨hP1, hD1⟩ := hB
    rw [ht] at hP1
    obtain ⟨rfl, rfl⟩ := hw
    obtain ⟨hP, hD⟩ := va_join (wr := [(a_1, .inr (1, [.long 0, .int 1000, .int (-1), .int (-1), .int 0, .ref a_2, .ref a_3, .ref a_5, .ref a_7, .ref a_9, .ref a_11, .long 0, .ref a_13])), (a_47, .inr (10, [.ref a_1, .ref a_42, .ref a_48])), (a_48, .inl (G.2 1, 24, .inr (.inl (fun _ => 0)))), (a_70, .inl (G.2 0, 24, .inl (fun _ => 0))), (a_5, .inr (6, [.int 5, .int 24, .ref a_6, .int 0]))]) (w1 := [(a_x, .inr (11, [.ref a_1, .ref a_14, .ref a_41, .ref a_42, .ref a_47, .ref a_49, .ref a_57, .ref a_58, .ref a_61, .ref a_69, .int 0, .int 0, .int (-1), .ref a_70, .int 0, .ref a_71, .int (-1)])), (a_71, .inl (G.2 0, 5, .inl (upd (fun _ => 0) 0 1)))]) hP hD [0, 2] [1, 3, 4, 5, 6] rfl rfl (by decide) (by decide) hk1 hFc hP1 hD1
    generalize H1 = H at hP hS ⊢
    have hP : va_P G.1 vwCl [(a_1, .inr (1, [.long 0, .int 1000, .int (-1), .int (-1), .int 0, .ref a_2, .ref a_3, .ref a_5, .ref a_7, .ref a_9, .ref a_11, .long 0, .ref a_13])), (a_47, .inr (10, [.ref a_1, .ref a_42, .ref a_48])), (a_48, .inl (G.2 1, 24, .inr (.inl (fun _ => 0)))), (a_70, .inl (G.2 0, 24, .inl (fun _ => 0))), (a_5, .inr (6, [.int 5, .int 24, .ref a_6, .int 0])), (a_x, .inr (11, [.ref a_1, .ref a_14, .ref a_41, .ref a_42, .ref a_47, .ref a_49, .ref a_57, .ref a_58, .ref a_61, .ref a_69, .int 0, .int 0, .int (-1), .ref a_70, .int 0, .ref a_71, .int (-1)])), (a_71, .inl (G.2 0, 5, .inl (upd (fun _ => 0) 0 1)))] H := hP
    have hD : va_D A [(a_1, .inr (1, [.long 0, .int 1000, .int (-1), .int (-1), .int 0, .ref a_2, .ref a_3, .ref a_5, .ref a_7, .ref a_9, .ref a_11, .long 0, .ref a_13])), (a_47, .inr (10, [.ref a_1, .ref a_42, .ref a_48])), (a_48, .inl (G.2 1, 24, .inr (.inl (fun _ => 0)))), (a_70, .inl (G.2 0, 24, .inl (fun _ => 0))), (a_5, .inr (6, [.int 5, .int 24, .ref a_6, .int 0])), (a_x, .inr (11, [.ref a_1, .ref a_14, .ref a_41, .ref a_42, .ref a_47, .ref a_49, .ref a_57, .ref a_58, .ref a_61, .ref a_69, .int 0, .int 0, .int (-1), .ref a_70, .int 0, .ref a_71, .int (-1)])), (a_71, .inl (G.2 0, 5, .inl (upd (fun _ => 0) 0 1)))] := hD
    exact W.iret (v := (-1)) hx hb hr (fun t ht hW => ⟨⟨(-1), [], rfl, Or.inl (⟨by omega, rfl, rfl⟩), by rw [ht]; exact hP.sub [] rfl, hD.sub [] (by decide) rfl⟩, hS.F ht⟩) hS.2.2 dX11_wander_22
  ·
    have i_1 : p_s.toInt ≥ 0 := by have z := g5_ltN (a := p_s.toInt) (b := 0) (by rfl) (by decide) c_1; omega
    refine lv_iload_n hx hb dX11_wander_4 rfl (lv_at hl 1 rfl) ?_
    refine lv_ldc (v := 1000000) hx hb hown (hts _ ki_X11_181) dX11_wander_5 ?_
    refine lv_icmp_gt (tgt := 17) hx hb dX11_wander_7 (by decide) (fun c_2 => ?_) (fun c_2 => ?_)
    ·
      have i_2 : p_s.toInt > 1000000 := by have z := g5_gt (a := p_s.toInt) (b := 1000000) (by rfl) (by decide) c_2; omega
      refine lv_aload_n hx hb dX11_wander_17 rfl (lv_at hl 0 rfl) ?_
      refine lv_iconst (v := (-1)) hx hb dX11_wander_18 (by decide) ?_
      have hPc := hP.sub (ws' := [(a_x, .inr (11, [.ref a_1, .ref a_14, .ref a_41, .ref a_42, .ref a_47, .ref a_49, .ref a_57, .ref a_58, .ref a_61, .ref a_69, .int 0, .int 0, .int (-1), .ref a_70, .int 0, .ref a_71, .int 0])), (a_71, .inl (G.2 0, 5, .inl (fun _ => 0)))]) [0, 2] rfl
      have hDc := hD.sub (ws' := [(a_x, .inr (11, [.ref a_1, .ref a_14, .ref a_41, .ref a_42, .ref a_47, .ref a_49, .ref a_57, .ref a_58, .ref a_61, .ref a_69, .int 0, .int 0, .int (-1), .ref a_70, .int 0, .ref a_71, .int 0])), (a_71, .inl (G.2 0, 5, .inl (fun _ => 0)))]) [0, 2] (by decide) rfl
      have hFc := va_free (wc := [(a_x, .inr (11, [.ref a_1, .ref a_14, .ref a_41, .ref a_42, .ref a_47, .ref a_49, .ref a_57, .ref a_58, .ref a_61, .ref a_69, .int 0, .int 0, .int (-1), .ref a_70, .int 0, .ref a_71, .int 0])), (a_71, .inl (G.2 0, 5, .inl (fun _ => 0)))]) hD hS hA [0, 2] rfl
      refine va_calli (va_runV (As := [.int (-1)]) (rest := []) ⟨hx, hb, hml, hown, hts⟩ (kX11_refuse l G a_x a_1 a_14 a_41 a_42 a_47 a_49 a_57 a_58 a_61 a_69 a_70 a_71 s.heap.size) (cwV 1 hts gV_X11_104 rfl rfl rfl hv_X11_refuse ⟨Nat.le_of_ble_eq_true rfl, Nat.le_of_ble_eq_true rfl⟩) (g5_preV hPc hK hDc hN hT hS hFc (ci := 11) (q0 := 0) rfl rfl) rfl rfl hl.1 rfl (lv_room (Nat.le_of_ble_eq_true rfl)) dX11_wander_19 ⟨Nat.le_of_ble_eq_true rfl, Nat.le_of_ble_eq_true rfl⟩) hS (fun q _ h => hFc q h) hFc (fun r u t H1 locs ht hvm hw hB hz1 hk1 hS => ?_)
      obtain ⟨hP1, hD1⟩ := hB
      rw [ht] at hP1
      obtain ⟨rfl, rfl⟩ := hw
      obtain ⟨hP, hD⟩ := va_join (wr := [(a_1, .inr (1, [.long 0, .int 1000, .int (-1), .int (-1), .int 0, .ref a_2, .ref a_3, .ref a_5, .ref a_7, .ref a_9, .ref a_11, .long 0, .ref a_13])), (a_47, .inr (10, [.ref a_1, .ref a_42, .ref a_48])), (a_48, .inl (G.2 1, 24, .inr (.inl (fun _ => 0)))), (a_70, .inl (G.2 0, 24, .inl (fun _ => 0))), (a_5, .inr (6, [.int 5, .int 24, .ref a_6, .int 0]))]) (w1 := [(a_x, .inr (11, [.ref a_1, .ref a_14, .ref a_41, .ref a_42, .ref a_47, .ref a_49, .ref a_57, .ref a_58, .ref a_61, .ref a_69, .int 0, .int 0, .int (-1), .ref a_70, .int 0, .ref a_71, .int (-1)])), (a_71, .inl (G.2 0, 5, .inl (upd (fun _ => 0) 0 1)))]) hP hD [0, 2] [1, 3, 4, 5, 6] rfl rfl (by decide) (by decide) hk1 hFc hP1 hD1
      generalize H1 = H at hP hS ⊢
      have hP : va_P G.1 vwCl [(a_1, .inr (1, [.long 0, .int 1000, .int (-1), .int (-1), .int 0, .ref a_2, .ref a_3, .ref a_5, .ref a_7, .ref a_9, .ref a_11, .long 0, .ref a_13])), (a_47, .inr (10, [.ref a_1, .ref a_42, .ref a_48])), (a_48, .inl (G.2 1, 24, .inr (.inl (fun _ => 0)))), (a_70, .inl (G.2 0, 24, .inl (fun _ => 0))), (a_5, .inr (6, [.int 5, .int 24, .ref a_6, .int 0])), (a_x, .inr (11, [.ref a_1, .ref a_14, .ref a_41, .ref a_42, .ref a_47, .ref a_49, .ref a_57, .ref a_58, .ref a_61, .ref a_69, .int 0, .int 0, .int (-1), .ref a_70, .int 0, .ref a_71, .int (-1)])), (a_71, .inl (G.2 0, 5, .inl (upd (fun _ => 0) 0 1)))] H := hP
      have hD : va_D A [(a_1, .inr (1, [.long 0, .int 1000, .int (-1), .int (-1), .int 0, .ref a_2, .ref a_3, .ref a_5, .ref a_7, .ref a_9, .ref a_11, .long 0, .ref a_13])), (a_47, .inr (10, [.ref a_1, .ref a_42, .ref a_48])), (a_48, .inl (G.2 1, 24, .inr (.inl (fun _ => 0)))), (a_70, .inl (G.2 0, 24, .inl (fun _ => 0))), (a_5, .inr (6, [.int 5, .int 24, .ref a_6, .int 0])), (a_x, .inr (11, [.ref a_1, .ref a_14, .ref a_41, .ref a_42, .ref a_47, .ref a_49, .ref a_57, .ref a_58, .ref a_61, .ref a_69, .int 0, .int 0, .int (-1), .ref a_70, .int 0, .ref a_71, .int (-1)])), (a_71, .inl (G.2 0, 5, .inl (upd (fun _ => 0) 0 1)))] := hD
      exact W.iret (v := (-1)) hx hb hr (fun t ht hW => ⟨⟨(-1), [], rfl, Or.inl (⟨by omega, rfl, rfl⟩), by rw [ht]; exact hP.sub [] rfl, hD.sub [] (by decide) rfl⟩, hS.F ht⟩) hS.2.2 dX11_wander_22
    ·
      have i_2 : p_s.toInt ≤ 1000000 := by have z := g5_gtN (a := p_s.toInt) (b := 1000000) (by rfl) (by decide) c_2; omega
      refine lv_iload_n hx hb dX11_wander_10 rfl (lv_at hl 2 rfl) ?_
      have hPc := hP.sub (ws' := []) [] rfl
      have hDc := hD.sub (ws' := []) [] (by decide) rfl
      have hFc := va_free (wc := []) hD hS hA [] rfl
      refine va_calli (va_runS (As := [.int p_c]) (rest := []) ⟨hx, hb, hml, hown, hts⟩ (kX11_isCell_2 l G s.heap.size p_c) (va_cwS 1 hts gS_X11_97 rfl rfl rfl hs_X11_isCell ⟨Nat.le_of_ble_eq_true rfl, Nat.le_of_ble_eq_true rfl⟩) (g5_preS hPc hK hDc hN hT hS hFc) rfl rfl hl.1 rfl (lv_room (Nat.le_of_ble_eq_true rfl)) dX11_wander_11 ⟨Nat.le_of_ble_eq_true rfl, Nat.le_of_ble_eq_true rfl⟩) hS (fun q _ h => hFc q h) hFc (fun r u t H1 locs ht hvm hw hB hz1 hk1 hS => ?_)
      obtain ⟨hP1, hD1⟩ := hB
      rw [ht] at hP1
      rcases hw with ⟨i_3, rfl, rfl⟩ | ⟨i_4, i_5, rfl, rfl⟩ | ⟨i_6, i_7, rfl, rfl⟩
      ·
        have hP := g5_same hP hk1
        generalize H1 = H at hP hS ⊢
        refine lv_if_ne (tgt := 23) hx hb dX11_wander_14 (by decide) (fun c_8 => ?_) (fun c_8 => ?_)
        ·
          exact absurd c_8 (by decide)
        ·
          refine lv_aload_n hx hb dX11_wander_17 rfl (lv_at hl 0 rfl) ?_
          refine lv_iconst (v := (-1)) hx hb dX11_wander_18 (by decide) ?_
          have hPc := hP.sub (ws' := [(a_x, .inr (11, [.ref a_1, .ref a_14, .ref a_41, .ref a_42, .ref a_47, .ref a_49, .ref a_57, .ref a_58, .ref a_61, .ref a_69, .int 0, .int 0, .int (-1), .ref a_70, .int 0, .ref a_71, .int 0])), (a_71, .inl (G.2 0, 5, .inl (fun _ => 0)))]) [0, 2] rfl
          have hDc := hD.sub (ws' := [(a_x, .inr (11, [.ref a_1, .ref a_14, .ref a_41, .ref a_42, .ref a_47, .ref a_49, .ref a_57, .ref a_58, .ref a_61, .ref a_69, .int 0, .int 0, .int (-1), .ref a_70, .int 0, .ref a_71, .int 0])), (a_71, .inl (G.2 0, 5, .inl (fun _ => 0)))]) [0, 2] (by decide) rfl
          have hFc := va_free (wc := [(a_x, .inr (11, [.ref a_1, .ref a_14, .ref a_41, .ref a_42, .ref a_47, .ref a_49, .ref a_57, .ref a_58, .ref a_61, .ref a_69, .int 0, .int 0, .int (-1), .ref a_70, .int 0, .ref a_71, .int 0])), (a_71, .inl (G.2 0, 5, .inl (fun _ => 0)))]) hD hS hA [0, 2] rfl
          refine va_calli (va_runV (As := [.int (-1)]) (rest := []) ⟨hx, hb, hml, hown, hts⟩ (kX11_refuse l G a_x a_1 a_14 a_41 a_42 a_47 a_49 a_57 a_58 a_61 a_69 a_70 a_71 H.size) (cwV 1 hts gV_X11_104 rfl rfl rfl hv_X11_refuse ⟨Nat.le_of_ble_eq_true rfl, Nat.le_of_ble_eq_true rfl⟩) (g5_preV hPc hK hDc hN hT hS hFc (ci := 11) (q0 := 0) rfl rfl) rfl rfl hl.1 rfl (lv_room (Nat.le_of_ble_eq_true rfl)) dX11_wander_19 ⟨Nat.le_of_ble_eq_true rfl, Nat.le_of_ble_eq_true rfl⟩) hS (fun q _ h => hFc q h) hFc (fun r u t H1 locs ht hvm hw hB hz1 hk1 hS => ?_)
          obtain ⟨hP1, hD1⟩ := hB
          rw [ht] at hP1
          obtain ⟨rfl, rfl⟩ := hw
          obtain ⟨hP, hD⟩ := va_join (wr := [(a_1, .inr (1, [.long 0, .int 1000, .int (-1), .int (-1), .int 0, .ref a_2, .ref a_3, .ref a_5, .ref a_7, .ref a_9, .ref a_11, .long 0, .ref a_13])), (a_47, .inr (10, [.ref a_1, .ref a_42, .ref a_48])), (a_48, .inl (G.2 1, 24, .inr (.inl (fun _ => 0)))), (a_70, .inl (G.2 0, 24, .inl (fun _ => 0))), (a_5, .inr (6, [.int 5, .int 24, .ref a_6, .int 0]))]) (w1 := [(a_x, .inr (11, [.ref a_1, .ref a_14, .ref a_41, .ref a_42, .ref a_47, .ref a_49, .ref a_57, .ref a_58, .ref a_61, .ref a_69, .int 0, .int 0, .int (-1), .ref a_70, .int 0, .ref a_71, .int (-1)])), (a_71, .inl (G.2 0, 5, .inl (upd (fun _ => 0) 0 1)))]) hP hD [0, 2] [1, 3, 4, 5, 6] rfl rfl (by decide) (by decide) hk1 hFc hP1 hD1
          generalize H1 = H at hP hS ⊢
          have hP : va_P G.1 vwCl [(a_1, .inr (1, [.long 0, .int 1000, .int (-1), .int (-1), .int 0, .ref a_2, .ref a_3, .ref a_5, .ref a_7, .ref a_9, .ref a_11, .long 0, .ref a_13])), (a_47, .inr (10, [.ref a_1, .ref a_42, .ref a_48])), (a_48, .inl (G.2 1, 24, .inr (.inl (fun _ => 0)))), (a_70, .inl (G.2 0, 24, .inl (fun _ => 0))), (a_5, .inr (6, [.int 5, .int 24, .ref a_6, .int 0])), (a_x, .inr (11, [.ref a_1, .ref a_14, .ref a_41, .ref a_42, .ref a_47, .ref a_49, .ref a_57, .ref a_58, .ref a_61, .ref a_69, .int 0, .int 0, .int (-1), .ref a_70, .int 0, .ref a_71, .int (-1)])), (a_71, .inl (G.2 0, 5, .inl (upd (fun _ => 0) 0 1)))] H := hP
          have hD : va_D A [(a_1, .inr (1, [.long 0, .int 1000, .int (-1), .int (-1), .int 0, .ref a_2, .ref a_3, .ref a_5, .ref a_7, .ref a_9, .ref a_11, .long 0, .ref a_13])), (a_47, .inr (10, [.ref a_1, .ref a_42, .ref a_48])), (a_48, .inl (G.2 1, 24, .inr (.inl (fun _ => 0)))), (a_70, .inl (G.2 0, 24, .inl (fun _ => 0))), (a_5, .inr (6, [.int 5, .int 24, .ref a_6, .int 0])), (a_x, .inr (11, [.ref a_1, .ref a_14, .ref a_41, .ref a_42, .ref a_47, .ref a_49, .ref a_57, .ref a_58, .ref a_61, .ref a_69, .int 0, .int 0, .int (-1), .ref a_70, .int 0, .ref a_71, .int (-1)])), (a_71, .inl (G.2 0, 5, .inl (upd (fun _ => 0) 0 1)))] := hD
          exact W.iret (v := (-1)) hx hb hr (fun t ht hW => ⟨⟨(-1), [], rfl, Or.inl (⟨by omega, rfl, rfl⟩), by rw [ht]; exact hP.sub [] rfl, hD.sub [] (by decide) rfl⟩, hS.F ht⟩) hS.2.2 dX11_wander_22
      ·
        have hP := g5_same hP hk1
        generalize H1 = H at hP hS ⊢
        refine lv_if_ne (tgt := 23) hx hb dX11_wander_14 (by decide) (fun c_9 => ?_) (fun c_9 => ?_)
        ·
          exact absurd c_9 (by decide)
        ·
          refine lv_aload_n hx hb dX11_wander_17 rfl (lv_at hl 0 rfl) ?_
          refine lv_iconst (v := (-1)) hx hb dX11_wander_18 (by decide) ?_
          have hPc := hP.sub (ws' := [(a_x, .inr (11, [.ref a_1, .ref a_14, .ref a_41, .ref a_42, .ref a_47, .ref a_49, .ref a_57, .ref a_58, .ref a_61, .ref a_69, .int 0, .int 0, .int (-1), .ref a_70, .int 0, .ref a_71, .int 0])), (a_71, .inl (G.2 0, 5, .inl (fun _ => 0)))]) [0, 2] rfl
          have hDc := hD.sub (ws' := [(a_x, .inr (11, [.ref a_1, .ref a_14, .ref a_41, .ref a_42, .ref a_47, .ref a_49, .ref a_57, .ref a_58, .ref a_61, .ref a_69, .int 0, .int 0, .int (-1), .ref a_70, .int 0, .ref a_71, .int 0])), (a_71, .inl (G.2 0, 5, .inl (fun _ => 0)))]) [0, 2] (by decide) rfl
          have hFc := va_free (wc := [(a_x, .inr (11, [.ref a_1, .ref a_14, .ref a_41, .ref a_42, .ref a_47, .ref a_49, .ref a_57, .ref a_58, .ref a_61, .ref a_69, .int 0, .int 0, .int (-1), .ref a_70, .int 0, .ref a_71, .int 0])), (a_71, .inl (G.2 0, 5, .inl (fun _ => 0)))]) hD hS hA [0, 2] rfl
          refine va_calli (va_runV (As := [.int (-1)]) (rest := []) ⟨hx, hb, hml, hown, hts⟩ (kX11_refuse l G a_x a_1 a_14 a_41 a_42 a_47 a_49 a_57 a_58 a_61 a_69 a_70 a_71 H.size) (cwV 1 hts gV_X11_104 rfl rfl rfl hv_X11_refuse ⟨Nat.le_of_ble_eq_true rfl, Nat.le_of_ble_eq_true rfl⟩) (g5_preV hPc hK hDc hN hT hS hFc (ci := 11) (q0 := 0) rfl rfl) rfl rfl hl.1 rfl (lv_room (Nat.le_of_ble_eq_true rfl)) dX11_wander_19 ⟨Nat.le_of_ble_eq_true rfl, Nat.le_of_ble_eq_true rfl⟩) hS (fun q _ h => hFc q h) hFc (fun r u t H1 locs ht hvm hw hB hz1 hk1 hS => ?_)
          obtain ⟨hP1, hD1⟩ := hB
          rw [ht] at hP1
          obtain ⟨rfl, rfl⟩ := hw
          obtain ⟨hP, hD⟩ := va_join (wr := [(a_1, .inr (1, [.long 0, .int 1000, .int (-1), .int (-1), .int 0, .ref a_2, .ref a_3, .ref a_5, .ref a_7, .ref a_9, .ref a_11, .long 0, .ref a_13])), (a_47, .inr (10, [.ref a_1, .ref a_42, .ref a_48])), (a_48, .inl (G.2 1, 24, .inr (.inl (fun _ => 0)))), (a_70, .inl (G.2 0, 24, .inl (fun _ => 0))), (a_5, .inr (6, [.int 5, .int 24, .ref a_6, .int 0]))]) (w1 := [(a_x, .inr (11, [.ref a_1, .ref a_14, .ref a_41, .ref a_42, .ref a_47, .ref a_49, .ref a_57, .ref a_58, .ref a_61, .ref a_69, .int 0, .int 0, .int (-1), .ref a_70, .int 0, .ref a_71, .int (-1)])), (a_71, .inl (G.2 0, 5, .inl (upd (fun _ => 0) 0 1)))]) hP hD [0, 2] [1, 3, 4, 5, 6] rfl rfl (by decide) (by decide) hk1 hFc hP1 hD1
          generalize H1 = H at hP hS ⊢
          have hP : va_P G.1 vwCl [(a_1, .inr (1, [.long 0, .int 1000, .int (-1), .int (-1), .int 0, .ref a_2, .ref a_3, .ref a_5, .ref a_7, .ref a_9, .ref a_11, .long 0, .ref a_13])), (a_47, .inr (10, [.ref a_1, .ref a_42, .ref a_48])), (a_48, .inl (G.2 1, 24, .inr (.inl (fun _ => 0)))), (a_70, .inl (G.2 0, 24, .inl (fun _ => 0))), (a_5, .inr (6, [.int 5, .int 24, .ref a_6, .int 0])), (a_x, .inr (11, [.ref a_1, .ref a_14, .ref a_41, .ref a_42, .ref a_47, .ref a_49, .ref a_57, .ref a_58, .ref a_61, .ref a_69, .int 0, .int 0, .int (-1), .ref a_70, .int 0, .ref a_71, .int (-1)])), (a_71, .inl (G.2 0, 5, .inl (upd (fun _ => 0) 0 1)))] H := hP
          have hD : va_D A [(a_1, .inr (1, [.long 0, .int 1000, .int (-1), .int (-1), .int 0, .ref a_2, .ref a_3, .ref a_5, .ref a_7, .ref a_9, .ref a_11, .long 0, .ref a_13])), (a_47, .inr (10, [.ref a_1, .ref a_42, .ref a_48])), (a_48, .inl (G.2 1, 24, .inr (.inl (fun _ => 0)))), (a_70, .inl (G.2 0, 24, .inl (fun _ => 0))), (a_5, .inr (6, [.int 5, .int 24, .ref a_6, .int 0])), (a_x, .inr (11, [.ref a_1, .ref a_14, .ref a_41, .ref a_42, .ref a_47, .ref a_49, .ref a_57, .ref a_58, .ref a_61, .ref a_69, .int 0, .int 0, .int (-1), .ref a_70, .int 0, .ref a_71, .int (-1)])), (a_71, .inl (G.2 0, 5, .inl (upd (fun _ => 0) 0 1)))] := hD
          exact W.iret (v := (-1)) hx hb hr (fun t ht hW => ⟨⟨(-1), [], rfl, Or.inl (⟨by omega, rfl, rfl⟩), by rw [ht]; exact hP.sub [] rfl, hD.sub [] (by decide) rfl⟩, hS.F ht⟩) hS.2.2 dX11_wander_22
      ·
        have hP := g5_same hP hk1
        generalize H1 = H at hP hS ⊢
        refine lv_if_ne (tgt := 23) hx hb dX11_wander_14 (by decide) (fun c_10 => ?_) (fun c_10 => ?_)
        ·
          refine lv_aload_n hx hb dX11_wander_23 rfl (lv_at hl 0 rfl) ?_
          refine va_get (D := G.1) (ci := 11) (v := .ref a_1) (C := RX11) (T := TX11) (N := 17) hx hb hts inG_X11 hown hK hP 0 rfl rfl 0 (by decide) (hts _ fl_X11_12) (fun _ h9 => h9) rfl dX11_wander_24 ?_
          refine va_get (D := G.1) (ci := 1) (v := .long 0) (C := RX1) (T := TX1) (N := 13) hx hb hts inG_X1 hown hK hP 1 rfl rfl 0 (by decide) (hts _ fl_X11_111) (fun _ h9 => h9) rfl dX11_wander_27 ?_
          refine lv_iload_n hx hb dX11_wander_30 rfl (lv_at hl 2 rfl) ?_
          have hPc := hP.sub (ws' := []) [] rfl
          have hDc := hD.sub (ws' := []) [] (by decide) rfl
          have hFc := va_free (wc := []) hD hS hA [] rfl
          refine va_calli (va_runS (As := [.long 0, .int p_c]) (rest := []) ⟨hx, hb, hml, hown, hts⟩ (kX11_isOn_5 l G H.size p_c ⟨by omega, by omega⟩) (va_cwS 2 hts gS_X11_115 rfl rfl rfl hs_X11_isOn ⟨Nat.le_of_ble_eq_true rfl, Nat.le_of_ble_eq_true rfl⟩) (g5_preS hPc hK hDc hN hT hS hFc) rfl rfl hl.1 rfl (lv_room (Nat.le_of_ble_eq_true rfl)) dX11_wander_31 ⟨Nat.le_of_ble_eq_true rfl, Nat.le_of_ble_eq_true rfl⟩) hS (fun q _ h => hFc q h) hFc (fun r u t H1 locs ht hvm hw hB hz1 hk1 hS => ?_)
          obtain ⟨hP1, hD1⟩ := hB
          rw [ht] at hP1
          obtain ⟨rfl, rfl⟩ := hw
          have hP := g5_same hP hk1
          generalize H1 = H at hP hS ⊢
          refine lv_if_eq (tgt := 44) hx hb dX11_wander_34 (by decide) (fun c_11 => ?_) (fun c_11 => ?_)
          ·
            refine lv_aload_n hx hb dX11_wander_44 rfl (lv_at hl 0 rfl) ?_
            refine va_get (D := G.1) (ci := 11) (v := .ref a_47) (C := RX11) (T := TX11) (N := 17) hx hb hts inG_X11 hown hK hP 0 rfl rfl 4 (by decide) (hts _ fl_X11_38) (fun _ h9 => h9) rfl dX11_wander_45 ?_
            have hPc := hP.sub (ws' := [(a_47, .inr (10, [.ref a_1, .ref a_42, .ref a_48])), (a_48, .inl (G.2 1, 24, .inr (.inl (fun _ => 0)))), (a_1, .inr (1, [.long 0, .int 1000, .int (-1), .int (-1), .int 0, .ref a_2, .ref a_3, .ref a_5, .ref a_7, .ref a_9, .ref a_11, .long 0, .ref a_13])), (a_5, .inr (6, [.int 5, .int 24, .ref a_6, .int 0]))]) [3, 4, 1, 6] rfl
            have hDc := hD.sub (ws' := [(a_47, .inr (10, [.ref a_1, .ref a_42, .ref a_48])), (a_48, .inl (G.2 1, 24, .inr (.inl (fun _ => 0)))), (a_1, .inr (1, [.long 0, .int 1000, .int (-1), .int (-1), .int 0, .ref a_2, .ref a_3, .ref a_5, .ref a_7, .ref a_9, .ref a_11, .long 0, .ref a_13])), (a_5, .inr (6, [.int 5, .int 24, .ref a_6, .int 0]))]) [3, 4, 1, 6] (by decide) rfl
            have hFc := va_free (wc := [(a_47, .inr (10, [.ref a_1, .ref a_42, .ref a_48])), (a_48, .inl (G.2 1, 24, .inr (.inl (fun _ => 0)))), (a_1, .inr (1, [.long 0, .int 1000, .int (-1), .int (-1), .int 0, .ref a_2, .ref a_3, .ref a_5, .ref a_7, .ref a_9, .ref a_11, .long 0, .ref a_13])), (a_5, .inr (6, [.int 5, .int 24, .ref a_6, .int 0]))]) hD hS hA [3, 4, 1, 6] rfl
            refine va_callv (va_runV (As := []) (rest := []) ⟨hx, hb, hml, hown, hts⟩ (kX10_lookAround l G a_47 a_1 a_42 a_48 a_2 a_3 a_5 a_7 a_9 a_11 a_13 a_6 H.size) (cwV 0 hts gV_X11_254 rfl rfl rfl hv_X10_lookAround ⟨Nat.le_of_ble_eq_true rfl, Nat.le_of_ble_eq_true rfl⟩) (g5_preV hPc hK hDc hN hT hS hFc (ci := 10) (q0 := 0) rfl rfl) rfl rfl hl.1 rfl (lv_room (Nat.le_of_ble_eq_true rfl)) dX11_wander_48 ⟨Nat.le_of_ble_eq_true rfl, Nat.le_of_ble_eq_true rfl⟩) hS (fun q _ h => hFc q h) hFc (fun u t H1 locs ht hvm hw hB hz1 hk1 hS => ?_)
            obtain ⟨hP1, hD1⟩ := hB
            rw [ht] at hP1
            obtain rfl := hw
            obtain ⟨hP, hD⟩ := va_join (wr := [(a_x, .inr (11, [.ref a_1, .ref a_14, .ref a_41, .ref a_42, .ref a_47, .ref a_49, .ref a_57, .ref a_58, .ref a_61, .ref a_69, .int 0, .int 0, .int (-1), .ref a_70, .int 0, .ref a_71, .int 0])), (a_71, .inl (G.2 0, 5, .inl (fun _ => 0))), (a_70, .inl (G.2 0, 24, .inl (fun _ => 0)))]) (w1 := [(a_47, .inr (10, [.ref a_1, .ref a_42, .ref a_48])), (a_1, .inr (1, [.long 0, .int 1000, .int (-1), .int (-1), .int 0, .ref a_2, .ref a_3, .ref a_5, .ref a_7, .ref a_9, .ref a_11, .long 0, .ref a_13])), (a_5, .inr (6, [.int 5, .int 24, .ref a_6, .int 0])), (a_48, .inl (G.2 1, 24, .inr (.inl (fun _ => 0))))]) hP hD [3, 4, 1, 6] [0, 2, 5] rfl rfl (by decide) (by decide) hk1 hFc hP1 hD1
            generalize H1 = H at hP hS ⊢
            have hP : va_P G.1 vwCl [(a_x, .inr (11, [.ref a_1, .ref a_14, .ref a_41, .ref a_42, .ref a_47, .ref a_49, .ref a_57, .ref a_58, .ref a_61, .ref a_69, .int 0, .int 0, .int (-1), .ref a_70, .int 0, .ref a_71, .int 0])), (a_71, .inl (G.2 0, 5, .inl (fun _ => 0))), (a_70, .inl (G.2 0, 24, .inl (fun _ => 0))), (a_47, .inr (10, [.ref a_1, .ref a_42, .ref a_48])), (a_1, .inr (1, [.long 0, .int 1000, .int (-1), .int (-1), .int 0, .ref a_2, .ref a_3, .ref a_5, .ref a_7, .ref a_9, .ref a_11, .long 0, .ref a_13])), (a_5, .inr (6, [.int 5, .int 24, .ref a_6, .int 0])), (a_48, .inl (G.2 1, 24, .inr (.inl (fun _ => 0))))] H := hP
            have hD : va_D A [(a_x, .inr (11, [.ref a_1, .ref a_14, .ref a_41, .ref a_42, .ref a_47, .ref a_49, .ref a_57, .ref a_58, .ref a_61, .ref a_69, .int 0, .int 0, .int (-1), .ref a_70, .int 0, .ref a_71, .int 0])), (a_71, .inl (G.2 0, 5, .inl (fun _ => 0))), (a_70, .inl (G.2 0, 24, .inl (fun _ => 0))), (a_47, .inr (10, [.ref a_1, .ref a_42, .ref a_48])), (a_1, .inr (1, [.long 0, .int 1000, .int (-1), .int (-1), .int 0, .ref a_2, .ref a_3, .ref a_5, .ref a_7, .ref a_9, .ref a_11, .long 0, .ref a_13])), (a_5, .inr (6, [.int 5, .int 24, .ref a_6, .int 0])), (a_48, .inl (G.2 1, 24, .inr (.inl (fun _ => 0))))] := hD
            refine lv_aload_n hx hb dX11_wander_51 rfl (lv_at hl 0 rfl) ?_
            refine lv_iconst (v := 1) hx hb dX11_wander_52 (by decide) ?_
            refine va_put (D := G.1) (ci := 11) (v := .int 1) (ty := .boolean) (C := RX11) (T := TX11) (N := 17) hx hb hts inG_X11 tyX11 tyX11_ok nmX11 hown hK hP hD hS 0 rfl rfl 14 (by decide) (hts _ fl_X11_87) (fun _ h9 => h9) rfl (by decide +kernel) rfl rfl (Nat.le_of_ble_eq_true rfl) dX11_wander_53 (fun H locs hP hD hS => ?_)
            have hP : va_P G.1 vwCl [(a_x, .inr (11, [.ref a_1, .ref a_14, .ref a_41, .ref a_42, .ref a_47, .ref a_49, .ref a_57, .ref a_58, .ref a_61, .ref a_69, .int 0, .int 0, .int (-1), .ref a_70, .int 1, .ref a_71, .int 0])), (a_71, .inl (G.2 0, 5, .inl (fun _ => 0))), (a_70, .inl (G.2 0, 24, .inl (fun _ => 0))), (a_47, .inr (10, [.ref a_1, .ref a_42, .ref a_48])), (a_1, .inr (1, [.long 0, .int 1000, .int (-1), .int (-1), .int 0, .ref a_2, .ref a_3, .ref a_5, .ref a_7, .ref a_9, .ref a_11, .long 0, .ref a_13])), (a_5, .inr (6, [.int 5, .int 24, .ref a_6, .int 0])), (a_48, .inl (G.2 1, 24, .inr (.inl (fun _ => 0))))] H := hP
            have hD : va_D A [(a_x, .inr (11, [.ref a_1, .ref a_14, .ref a_41, .ref a_42, .ref a_47, .ref a_49, .ref a_57, .ref a_58, .ref a_61, .ref a_69, .int 0, .int 0, .int (-1), .ref a_70, .int 1, .ref a_71, .int 0])), (a_71, .inl (G.2 0, 5, .inl (fun _ => 0))), (a_70, .inl (G.2 0, 24, .inl (fun _ => 0))), (a_47, .inr (10, [.ref a_1, .ref a_42, .ref a_48])), (a_1, .inr (1, [.long 0, .int 1000, .int (-1), .int (-1), .int 0, .ref a_2, .ref a_3, .ref a_5, .ref a_7, .ref a_9, .ref a_11, .long 0, .ref a_13])), (a_5, .inr (6, [.int 5, .int 24, .ref a_6, .int 0])), (a_48, .inl (G.2 1, 24, .inr (.inl (fun _ => 0))))] := hD
            refine lv_iload_n hx hb dX11_wander_56 rfl (lv_at hl 1 rfl) ?_
            refine lv_i2l (v := p_s.toInt64) hx hb dX11_wander_57 rfl ?_
            refine lv_lstore_n (lv' := [(3, .long p_s.toInt64), (0, .ref a_x), (1, .int p_s), (2, .int p_c)]) hx hb dX11_wander_58 rfl hl (by decide) rfl (fun ls hl => ?_)
            refine lv_iload_n hx hb dX11_wander_59 rfl (lv_at hl 3 rfl) ?_
            refine lv_istore (lv' := [(5, .int p_c), (3, .long p_s.toInt64), (0, .ref a_x), (1, .int p_s), (2, .int p_c)]) hx hb dX11_wander_60 hl (by decide) rfl (fun ls hl => ?_)
            refine lv_iconst (v := 0) hx hb dX11_wander_62 (by decide) ?_
            refine lv_istore (lv' := [(6, .int 0), (5, .int p_c), (3, .long p_s.toInt64), (0, .ref a_x), (1, .int p_s), (2, .int p_c)]) hx hb dX11_wander_63 hl (by decide) rfl (fun ls hl => ?_)
            refine lv_iconst (v := 0) hx hb dX11_wander_65 (by decide) ?_
            refine lv_istore (lv' := [(7, .int 0), (6, .int 0), (5, .int p_c), (3, .long p_s.toInt64), (0, .ref a_x), (1, .int p_s), (2, .int p_c)]) hx hb dX11_wander_66 hl (by decide) rfl (fun ls hl => ?_)
            refine g5_loop (α := (Int32) × (Int32) × (Int64) × (Nat → Int32)) (fun (q : (Int32) × (Int32) × (Int64) × (Nat → Int32)) (ls : Array Slot) (H : Heap) (locs : List Loc) => match q with | (k_t, k_a, k_d, k_f) => lv_has ls 9 [(3, .long k_d), (5, .int k_a), (7, .int k_t), (6, .int 0), (0, .ref a_x), (1, .int p_s), (2, .int p_c)] ∧ va_P G.1 vwCl [(a_x, .inr (11, [.ref a_1, .ref a_14, .ref a_41, .ref a_42, .ref a_47, .ref a_49, .ref a_57, .ref a_58, .ref a_61, .ref a_69, .int 0, .int 0, .int (-1), .ref a_70, .int 1, .ref a_71, .int 0])), (a_71, .inl (G.2 0, 5, .inl (fun _ => 0))), (a_70, .inl (G.2 0, 24, .inl k_f)), (a_47, .inr (10, [.ref a_1, .ref a_42, .ref a_48])), (a_1, .inr (1, [.long 0, .int 1000, .int (-1), .int (-1), .int 0, .ref a_2, .ref a_3, .ref a_5, .ref a_7, .ref a_9, .ref a_11, .long 0, .ref a_13])), (a_5, .inr (6, [.int 5, .int 24, .ref a_6, .int 0])), (a_48, .inl (G.2 1, 24, .inr (.inl (fun _ => 0))))] H ∧ va_D A [(a_x, .inr (11, [.ref a_1, .ref a_14, .ref a_41, .ref a_42, .ref a_47, .ref a_49, .ref a_57, .ref a_58, .ref a_61, .ref a_69, .int 0, .int 0, .int (-1), .ref a_70, .int 1, .ref a_71, .int 0])), (a_71, .inl (G.2 0, 5, .inl (fun _ => 0))), (a_70, .inl (G.2 0, 24, .inl k_f)), (a_47, .inr (10, [.ref a_1, .ref a_42, .ref a_48])), (a_1, .inr (1, [.long 0, .int 1000, .int (-1), .int (-1), .int 0, .ref a_2, .ref a_3, .ref a_5, .ref a_7, .ref a_9, .ref a_11, .long 0, .ref a_13])), (a_5, .inr (6, [.int 5, .int 24, .ref a_6, .int 0])), (a_48, .inl (G.2 1, 24, .inr (.inl (fun _ => 0))))] ∧ va_S A s.heap H locs ∧ (0 ≤ k_t.toInt ∧ k_t.toInt ≤ 24) ∧ (0 ≤ k_a.toInt ∧ k_a.toInt ≤ 63)) (fun (q : (Int32) × (Int32) × (Int64) × (Nat → Int32)) => match q with | (k_t, k_a, k_d, k_f) => Int.toNat (24 - k_t.toInt)) (0, p_c, p_s.toInt64, (fun _ => 0)) ⟨lv_sub hl [3, 2, 0, 1, 4, 5, 6] rfl, hP, hD, hS, ⟨by decide, by decide⟩, ⟨by omega, by omega⟩⟩ ?_
            rintro ⟨k_t, k_a, k_d, k_f⟩ ls H locs ⟨hl, hP, hD, hS, i_12, i_13⟩ ih_68_14
            have hl : lv_has ls 9 [(3, .long k_d), (5, .int k_a), (7, .int k_t), (6, .int 0), (0, .ref a_x), (1, .int p_s), (2, .int p_c)] := hl
            have i_12 : 0 ≤ k_t.toInt ∧ k_t.toInt ≤ 24 := i_12
            have i_13 : 0 ≤ k_a.toInt ∧ k_a.toInt ≤ 63 := i_13
            have hP : va_P G.1 vwCl [(a_x, .inr (11, [.ref a_1, .ref a_14, .ref a_41, .ref a_42, .ref a_47, .ref a_49, .ref a_57, .ref a_58, .ref a_61, .ref a_69, .int 0, .int 0, .int (-1), .ref a_70, .int 1, .ref a_71, .int 0])), (a_71, .inl (G.2 0, 5, .inl (fun _ => 0))), (a_70, .inl (G.2 0, 24, .inl k_f)), (a_47, .inr (10, [.ref a_1, .ref a_42, .ref a_48])), (a_1, .inr (1, [.long 0, .int 1000, .int (-1), .int (-1), .int 0, .ref a_2, .ref a_3, .ref a_5, .ref a_7, .ref a_9, .ref a_11, .long 0, .ref a_13])), (a_5, .inr (6, [.int 5, .int 24, .ref a_6, .int 0])), (a_48, .inl (G.2 1, 24, .inr (.inl (fun _ => 0))))] H := hP
            have hD : va_D A [(a_x, .inr (11, [.ref a_1, .ref a_14, .ref a_41, .ref a_42, .ref a_47, .ref a_49, .ref a_57, .ref a_58, .ref a_61, .ref a_69, .int 0, .int 0, .int (-1), .ref a_70, .int 1, .ref a_71, .int 0])), (a_71, .inl (G.2 0, 5, .inl (fun _ => 0))), (a_70, .inl (G.2 0, 24, .inl k_f)), (a_47, .inr (10, [.ref a_1, .ref a_42, .ref a_48])), (a_1, .inr (1, [.long 0, .int 1000, .int (-1), .int (-1), .int 0, .ref a_2, .ref a_3, .ref a_5, .ref a_7, .ref a_9, .ref a_11, .long 0, .ref a_13])), (a_5, .inr (6, [.int 5, .int 24, .ref a_6, .int 0])), (a_48, .inl (G.2 1, 24, .inr (.inl (fun _ => 0))))] := hD
            refine lv_iload hx hb dX11_wander_68 (lv_at hl 2 rfl) ?_
            refine lv_bipush (v := 24) hx hb dX11_wander_70 (by decide) ?_
            refine lv_icmp_ge (tgt := 173) hx hb dX11_wander_72 (by decide) (fun c_15 => ?_) (fun c_15 => ?_)
            ·
              have i_15 : k_t.toInt ≥ 24 := by have z := g5_ge (a := k_t.toInt) (b := 24) (by rfl) (by decide) c_15; omega
              refine lv_aload_n hx hb dX11_wander_173 rfl (lv_at hl 4 rfl) ?_
              refine lv_iload hx hb dX11_wander_174 (lv_at hl 3 rfl) ?_
              have hPc := hP.sub (ws' := [(a_x, .inr (11, [.ref a_1, .ref a_14, .ref a_41, .ref a_42, .ref a_47, .ref a_49, .ref a_57, .ref a_58, .ref a_61, .ref a_69, .int 0, .int 0, .int (-1), .ref a_70, .int 1, .ref a_71, .int 0]))]) [0] rfl
              have hDc := hD.sub (ws' := [(a_x, .inr (11, [.ref a_1, .ref a_14, .ref a_41, .ref a_42, .ref a_47, .ref a_49, .ref a_57, .ref a_58, .ref a_61, .ref a_69, .int 0, .int 0, .int (-1), .ref a_70, .int 1, .ref a_71, .int 0]))]) [0] (by decide) rfl
              have hFc := va_free (wc := [(a_x, .inr (11, [.ref a_1, .ref a_14, .ref a_41, .ref a_42, .ref a_47, .ref a_49, .ref a_57, .ref a_58, .ref a_61, .ref a_69, .int 0, .int 0, .int (-1), .ref a_70, .int 1, .ref a_71, .int 0]))]) hD hS hA [0] rfl
              refine va_calli (va_runV (As := [.int 0]) (rest := []) ⟨hx, hb, hml, hown, hts⟩ (kX11_done l G a_x a_1 a_14 a_41 a_42 a_47 a_49 a_57 a_58 a_61 a_69 a_70 a_71 H.size) (cwV 1 hts gV_X11_121 rfl rfl rfl hv_X11_done ⟨Nat.le_of_ble_eq_true rfl, Nat.le_of_ble_eq_true rfl⟩) (g5_preV hPc hK hDc hN hT hS hFc (ci := 11) (q0 := 0) rfl rfl) rfl rfl hl.1 rfl (lv_room (Nat.le_of_ble_eq_true rfl)) dX11_wander_176 ⟨Nat.le_of_ble_eq_true rfl, Nat.le_of_ble_eq_true rfl⟩) hS (fun q _ h => hFc q h) hFc (fun r u t H1 locs ht hvm hw hB hz1 hk1 hS => ?_)
              obtain ⟨hP1, hD1⟩ := hB
              rw [ht] at hP1
              obtain ⟨rfl, rfl⟩ := hw
              obtain ⟨hP, hD⟩ := va_join (wr := [(a_71, .inl (G.2 0, 5, .inl (fun _ => 0))), (a_70, .inl (G.2 0, 24, .inl k_f)), (a_47, .inr (10, [.ref a_1, .ref a_42, .ref a_48])), (a_1, .inr (1, [.long 0, .int 1000, .int (-1), .int (-1), .int 0, .ref a_2, .ref a_3, .ref a_5, .ref a_7, .ref a_9, .ref a_11, .long 0, .ref a_13])), (a_5, .inr (6, [.int 5, .int 24, .ref a_6, .int 0])), (a_48, .inl (G.2 1, 24, .inr (.inl (fun _ => 0))))]) (w1 := [(a_x, .inr (11, [.ref a_1, .ref a_14, .ref a_41, .ref a_42, .ref a_47, .ref a_49, .ref a_57, .ref a_58, .ref a_61, .ref a_69, .int 0, .int 0, .int (-1), .ref a_70, .int 1, .ref a_71, .int 0]))]) hP hD [0] [1, 2, 3, 4, 5, 6] rfl rfl (by decide) (by decide) hk1 hFc hP1 hD1
              generalize H1 = H at hP hS ⊢
              have hP : va_P G.1 vwCl [(a_71, .inl (G.2 0, 5, .inl (fun _ => 0))), (a_70, .inl (G.2 0, 24, .inl k_f)), (a_47, .inr (10, [.ref a_1, .ref a_42, .ref a_48])), (a_1, .inr (1, [.long 0, .int 1000, .int (-1), .int (-1), .int 0, .ref a_2, .ref a_3, .ref a_5, .ref a_7, .ref a_9, .ref a_11, .long 0, .ref a_13])), (a_5, .inr (6, [.int 5, .int 24, .ref a_6, .int 0])), (a_48, .inl (G.2 1, 24, .inr (.inl (fun _ => 0)))), (a_x, .inr (11, [.ref a_1, .ref a_14, .ref a_41, .ref a_42, .ref a_47, .ref a_49, .ref a_57, .ref a_58, .ref a_61, .ref a_69, .int 0, .int 0, .int (-1), .ref a_70, .int 1, .ref a_71, .int 0]))] H := hP
              have hD : va_D A [(a_71, .inl (G.2 0, 5, .inl (fun _ => 0))), (a_70, .inl (G.2 0, 24, .inl k_f)), (a_47, .inr (10, [.ref a_1, .ref a_42, .ref a_48])), (a_1, .inr (1, [.long 0, .int 1000, .int (-1), .int (-1), .int 0, .ref a_2, .ref a_3, .ref a_5, .ref a_7, .ref a_9, .ref a_11, .long 0, .ref a_13])), (a_5, .inr (6, [.int 5, .int 24, .ref a_6, .int 0])), (a_48, .inl (G.2 1, 24, .inr (.inl (fun _ => 0)))), (a_x, .inr (11, [.ref a_1, .ref a_14, .ref a_41, .ref a_42, .ref a_47, .ref a_49, .ref a_57, .ref a_58, .ref a_61, .ref a_69, .int 0, .int 0, .int (-1), .ref a_70, .int 1, .ref a_71, .int 0]))] := hD
              exact W.iret (v := 0) hx hb hr (fun t ht hW => ⟨⟨0, [], rfl, Or.inr (⟨by omega, rfl, rfl⟩), by rw [ht]; exact hP.sub [] rfl, hD.sub [] (by decide) rfl⟩, hS.F ht⟩) hS.2.2 dX11_wander_179
            ·
              have i_15 : k_t.toInt < 24 := by have z := g5_geN (a := k_t.toInt) (b := 24) (by rfl) (by decide) c_15; omega
              refine lv_iload hx hb dX11_wander_75 (lv_at hl 2 rfl) ?_
              refine lv_if_le (tgt := 137) hx hb dX11_wander_77 (by decide) (fun c_16 => ?_) (fun c_16 => ?_)
              ·
                have i_16 : k_t.toInt ≤ 0 := by have z := g5_le (a := k_t.toInt) (b := 0) (by rfl) (by decide) c_16; omega
                refine lv_aload_n hx hb dX11_wander_137 rfl (lv_at hl 4 rfl) ?_
                refine va_get (D := G.1) (ci := 11) (v := .ref a_70) (C := RX11) (T := TX11) (N := 17) hx hb hts inG_X11 hown hK hP 0 rfl rfl 13 (by decide) (hts _ fl_X11_84) (fun _ h9 => h9) rfl dX11_wander_138 ?_
                refine lv_iload hx hb dX11_wander_141 (lv_at hl 2 rfl) ?_
                refine lv_iload hx hb dX11_wander_143 (lv_at hl 1 rfl) ?_
                refine va_iast hx hb hK hP hD hS 2 0 rfl rfl (i := k_t) (x := k_a) (vp_in_iff.mpr ⟨by omega, by omega⟩) dX11_wander_145 (fun H locs hP hD hS => ?_)
                have hP : va_P G.1 vwCl [(a_x, .inr (11, [.ref a_1, .ref a_14, .ref a_41, .ref a_42, .ref a_47, .ref a_49, .ref a_57, .ref a_58, .ref a_61, .ref a_69, .int 0, .int 0, .int (-1), .ref a_70, .int 1, .ref a_71, .int 0])), (a_71, .inl (G.2 0, 5, .inl (fun _ => 0))), (a_70, .inl (G.2 0, 24, .inl (upd k_f k_t.toNatClampNeg k_a))), (a_47, .inr (10, [.ref a_1, .ref a_42, .ref a_48])), (a_1, .inr (1, [.long 0, .int 1000, .int (-1), .int (-1), .int 0, .ref a_2, .ref a_3, .ref a_5, .ref a_7, .ref a_9, .ref a_11, .long 0, .ref a_13])), (a_5, .inr (6, [.int 5, .int 24, .ref a_6, .int 0])), (a_48, .inl (G.2 1, 24, .inr (.inl (fun _ => 0))))] H := hP
                have hD : va_D A [(a_x, .inr (11, [.ref a_1, .ref a_14, .ref a_41, .ref a_42, .ref a_47, .ref a_49, .ref a_57, .ref a_58, .ref a_61, .ref a_69, .int 0, .int 0, .int (-1), .ref a_70, .int 1, .ref a_71, .int 0])), (a_71, .inl (G.2 0, 5, .inl (fun _ => 0))), (a_70, .inl (G.2 0, 24, .inl (upd k_f k_t.toNatClampNeg k_a))), (a_47, .inr (10, [.ref a_1, .ref a_42, .ref a_48])), (a_1, .inr (1, [.long 0, .int 1000, .int (-1), .int (-1), .int 0, .ref a_2, .ref a_3, .ref a_5, .ref a_7, .ref a_9, .ref a_11, .long 0, .ref a_13])), (a_5, .inr (6, [.int 5, .int 24, .ref a_6, .int 0])), (a_48, .inl (G.2 1, 24, .inr (.inl (fun _ => 0))))] := hD
                refine lv_aload_n hx hb dX11_wander_146 rfl (lv_at hl 4 rfl) ?_
                refine va_get (D := G.1) (ci := 11) (v := .ref a_47) (C := RX11) (T := TX11) (N := 17) hx hb hts inG_X11 hown hK hP 0 rfl rfl 4 (by decide) (hts _ fl_X11_38) (fun _ h9 => h9) rfl dX11_wander_147 ?_
                refine va_get (D := G.1) (ci := 10) (v := .ref a_48) (C := RX10) (T := TX10) (N := 3) hx hb hts inG_X10 hown hK hP 3 rfl rfl 2 (by decide) (hts _ fl_X11_257) (fun _ h9 => h9) rfl dX11_wander_150 ?_
                refine lv_iload hx hb dX11_wander_153 (lv_at hl 2 rfl) ?_
                refine va_lald hx hb hK hP 6 1 rfl rfl (i := k_t) (vp_in_iff.mpr ⟨by omega, by omega⟩) dX11_wander_155 ?_
                refine g5_tl (v := 0) rfl ?_
                refine lv_iload hx hb dX11_wander_156 (lv_at hl 1 rfl) ?_
                have hPc := hP.sub (ws' := []) [] rfl
                have hDc := hD.sub (ws' := []) [] (by decide) rfl
                have hFc := va_free (wc := []) hD hS hA [] rfl
                refine va_calli (va_runS (As := [.long 0, .int k_a]) (rest := []) ⟨hx, hb, hml, hown, hts⟩ (kX11_isOn_5 l G H.size k_a ⟨by omega, by omega⟩) (va_cwS 2 hts gS_X11_115 rfl rfl rfl hs_X11_isOn ⟨Nat.le_of_ble_eq_true rfl, Nat.le_of_ble_eq_true rfl⟩) (g5_preS hPc hK hDc hN hT hS hFc) rfl rfl hl.1 rfl (lv_room (Nat.le_of_ble_eq_true rfl)) dX11_wander_158 ⟨Nat.le_of_ble_eq_true rfl, Nat.le_of_ble_eq_true rfl⟩) hS (fun q _ h => hFc q h) hFc (fun r u t H1 locs ht hvm hw hB hz1 hk1 hS => ?_)
                obtain ⟨hP1, hD1⟩ := hB
                rw [ht] at hP1
                obtain ⟨rfl, rfl⟩ := hw
                have hP := g5_same hP hk1
                generalize H1 = H at hP hS ⊢
                refine lv_if_eq (tgt := 167) hx hb dX11_wander_161 (by decide) (fun c_17 => ?_) (fun c_17 => ?_)
                ·
                  refine lv_iinc (v := (k_t + 1)) (lv' := [(7, .int (k_t + 1)), (3, .long k_d), (5, .int k_a), (6, .int 0), (0, .ref a_x), (1, .int p_s), (2, .int p_c)]) hx hb dX11_wander_167 hl (k := 2) rfl rfl (by decide) rfl (fun ls hl => ?_)
                  have t_18 : (k_t + 1).toInt = k_t.toInt + 1 := g5_iadd (a := k_t.toInt) (b := 1) rfl (by decide) (by omega) (by omega)
                  refine lv_goto (tgt := 68) hx hb dX11_wander_170 (by decide) ?_
                  exact ih_68_14 ((k_t + 1), k_a, k_d, (upd k_f k_t.toNatClampNeg k_a)) ls H locs (show Int.toNat (24 - (k_t + 1).toInt) < Int.toNat (24 - k_t.toInt) by omega) ⟨lv_sub hl [1, 2, 0, 3, 4, 5, 6] rfl, hP, hD, hS, ⟨by omega, by omega⟩, ⟨by omega, by omega⟩⟩
                ·
                  exact absurd c_17 (by decide)
              ·
                have i_16 : k_t.toInt > 0 := by have z := g5_leN (a := k_t.toInt) (b := 0) (by rfl) (by decide) c_16; omega
                refine lv_lload_n hx hb dX11_wander_80 rfl (lv_at hl 0 rfl) ?_
                refine lv_ldc2 (v := 1103) hx hb hown (hts _ kl_X11_340) dX11_wander_81 ?_
                refine lv_lmul hx hb dX11_wander_84 ?_
                refine lv_ldc2 (v := 12345) hx hb hown (hts _ kl_X11_342) dX11_wander_85 ?_
                refine lv_ladd hx hb dX11_wander_88 ?_
                refine lv_ldc2 (v := 1000003) hx hb hown (hts _ kl_X11_344) dX11_wander_89 ?_
                refine lv_lrem hx hb dX11_wander_92 (by decide) ?_
                refine lv_lstore_n (lv' := [(3, .long (((k_d * 1103) + 12345) - ((k_d * 1103) + 12345) / 1000003 * 1000003)), (5, .int k_a), (7, .int k_t), (6, .int 0), (0, .ref a_x), (1, .int p_s), (2, .int p_c)]) hx hb dX11_wander_93 rfl hl (by decide) rfl (fun ls hl => ?_)
                refine lv_iload hx hb dX11_wander_94 (lv_at hl 1 rfl) ?_
                refine lv_lload_n hx hb dX11_wander_96 rfl (lv_at hl 0 rfl) ?_
                refine lv_ldc2 (v := 5) hx hb hown (hts _ kl_X11_346) dX11_wander_97 ?_
                refine lv_lrem hx hb dX11_wander_100 (by decide) ?_
                refine lv_l2i (v := ((((k_d * 1103) + 12345) - ((k_d * 1103) + 12345) / 1000003 * 1000003) - (((k_d * 1103) + 12345) - ((k_d * 1103) + 12345) / 1000003 * 1000003) / 5 * 5).toInt32) hx hb dX11_wander_101 rfl ?_
                have hPc := hP.sub (ws' := []) [] rfl
                have hDc := hD.sub (ws' := []) [] (by decide) rfl
                have hFc := va_free (wc := []) hD hS hA [] rfl
                refine va_calli (va_runS (As := [.int k_a, .int ((((k_d * 1103) + 12345) - ((k_d * 1103) + 12345) / 1000003 * 1000003) - (((k_d * 1103) + 12345) - ((k_d * 1103) + 12345) / 1000003 * 1000003) / 5 * 5).toInt32]) (rest := []) ⟨hx, hb, hml, hown, hts⟩ (k_beside l G H.size k_a (((((k_d * 1103) + 12345) - ((k_d * 1103) + 12345) / 1000003 * 1000003) - (((k_d * 1103) + 12345) - ((k_d * 1103) + 12345) / 1000003 * 1000003) / 5 * 5).toInt32) ⟨by omega, by omega⟩) (va_cwS 2 hts gS_X11_348 rfl rfl rfl hs_X11_beside ⟨Nat.le_of_ble_eq_true rfl, Nat.le_of_ble_eq_true rfl⟩) (g5_preS hPc hK hDc hN hT hS hFc) rfl rfl hl.1 rfl (lv_room (Nat.le_of_ble_eq_true rfl)) dX11_wander_102 ⟨Nat.le_of_ble_eq_true rfl, Nat.le_of_ble_eq_true rfl⟩) hS (fun q _ h => hFc q h) hFc (fun r u t H1 locs ht hvm hw hB hz1 hk1 hS => ?_)
                obtain ⟨hP1, hD1⟩ := hB
                rw [ht] at hP1
                obtain ⟨z21, i_19, i_20, y22, rfl⟩ := hw
                have i_19 : z21.toInt = bs k_a.toInt (((((k_d * 1103) + 12345) - ((k_d * 1103) + 12345) / 1000003 * 1000003) - (((k_d * 1103) + 12345) - ((k_d * 1103) + 12345) / 1000003 * 1000003) / 5 * 5).toInt32).toInt := i_19
                have i_20 : -1 ≤ z21.toInt ∧ z21.toInt ≤ 63 := i_20
                have hP := g5_same hP hk1
                generalize H1 = H at hP hS ⊢
                refine g5_ti (v := z21) y22 ?_
                refine lv_istore (lv' := [(8, .int z21), (3, .long (((k_d * 1103) + 12345) - ((k_d * 1103) + 12345) / 1000003 * 1000003)), (5, .int k_a), (7, .int k_t), (6, .int 0), (0, .ref a_x), (1, .int p_s), (2, .int p_c)]) hx hb dX11_wander_105 hl (by decide) rfl (fun ls hl => ?_)
                refine lv_iload hx hb dX11_wander_107 (lv_at hl 0 rfl) ?_
                refine lv_iconst (v := (-1)) hx hb dX11_wander_109 (by decide) ?_
                refine lv_icmp_eq (tgt := 128) hx hb dX11_wander_110 (by decide) (fun c_23 => ?_) (fun c_23 => ?_)
                ·
                  have i_23 : z21.toInt = (-1) := by have z := g5_eq (a := z21.toInt) (b := (-1)) (by rfl) (by decide) c_23; omega
                  refine lv_iload hx hb dX11_wander_128 (lv_at hl 2 rfl) ?_
                  refine lv_goto (tgt := 135) hx hb dX11_wander_130 (by decide) ?_
                  refine lv_istore (lv' := [(5, .int k_a), (8, .int z21), (3, .long (((k_d * 1103) + 12345) - ((k_d * 1103) + 12345) / 1000003 * 1000003)), (7, .int k_t), (6, .int 0), (0, .ref a_x), (1, .int p_s), (2, .int p_c)]) hx hb dX11_wander_135 hl (by decide) rfl (fun ls hl => ?_)
                  refine lv_aload_n hx hb dX11_wander_137 rfl (lv_at hl 5 rfl) ?_
                  refine va_get (D := G.1) (ci := 11) (v := .ref a_70) (C := RX11) (T := TX11) (N := 17) hx hb hts inG_X11 hown hK hP 0 rfl rfl 13 (by decide) (hts _ fl_X11_84) (fun _ h9 => h9) rfl dX11_wander_138 ?_
                  refine lv_iload hx hb dX11_wander_141 (lv_at hl 3 rfl) ?_
                  refine lv_iload hx hb dX11_wander_143 (lv_at hl 0 rfl) ?_
                  refine va_iast hx hb hK hP hD hS 2 0 rfl rfl (i := k_t) (x := k_a) (vp_in_iff.mpr ⟨by omega, by omega⟩) dX11_wander_145 (fun H locs hP hD hS => ?_)
                  have hP : va_P G.1 vwCl [(a_x, .inr (11, [.ref a_1, .ref a_14, .ref a_41, .ref a_42, .ref a_47, .ref a_49, .ref a_57, .ref a_58, .ref a_61, .ref a_69, .int 0, .int 0, .int (-1), .ref a_70, .int 1, .ref a_71, .int 0])), (a_71, .inl (G.2 0, 5, .inl (fun _ => 0))), (a_70, .inl (G.2 0, 24, .inl (upd k_f k_t.toNatClampNeg k_a))), (a_47, .inr (10, [.ref a_1, .ref a_42, .ref a_48])), (a_1, .inr (1, [.long 0, .int 1000, .int (-1), .int (-1), .int 0, .ref a_2, .ref a_3, .ref a_5, .ref a_7, .ref a_9, .ref a_11, .long 0, .ref a_13])), (a_5, .inr (6, [.int 5, .int 24, .ref a_6, .int 0])), (a_48, .inl (G.2 1, 24, .inr (.inl (fun _ => 0))))] H := hP
                  have hD : va_D A [(a_x, .inr (11, [.ref a_1, .ref a_14, .ref a_41, .ref a_42, .ref a_47, .ref a_49, .ref a_57, .ref a_58, .ref a_61, .ref a_69, .int 0, .int 0, .int (-1), .ref a_70, .int 1, .ref a_71, .int 0])), (a_71, .inl (G.2 0, 5, .inl (fun _ => 0))), (a_70, .inl (G.2 0, 24, .inl (upd k_f k_t.toNatClampNeg k_a))), (a_47, .inr (10, [.ref a_1, .ref a_42, .ref a_48])), (a_1, .inr (1, [.long 0, .int 1000, .int (-1), .int (-1), .int 0, .ref a_2, .ref a_3, .ref a_5, .ref a_7, .ref a_9, .ref a_11, .long 0, .ref a_13])), (a_5, .inr (6, [.int 5, .int 24, .ref a_6, .int 0])), (a_48, .inl (G.2 1, 24, .inr (.inl (fun _ => 0))))] := hD
                  refine lv_aload_n hx hb dX11_wander_146 rfl (lv_at hl 5 rfl) ?_
                  refine va_get (D := G.1) (ci := 11) (v := .ref a_47) (C := RX11) (T := TX11) (N := 17) hx hb hts inG_X11 hown hK hP 0 rfl rfl 4 (by decide) (hts _ fl_X11_38) (fun _ h9 => h9) rfl dX11_wander_147 ?_
                  refine va_get (D := G.1) (ci := 10) (v := .ref a_48) (C := RX10) (T := TX10) (N := 3) hx hb hts inG_X10 hown hK hP 3 rfl rfl 2 (by decide) (hts _ fl_X11_257) (fun _ h9 => h9) rfl dX11_wander_150 ?_
                  refine lv_iload hx hb dX11_wander_153 (lv_at hl 3 rfl) ?_
                  refine va_lald hx hb hK hP 6 1 rfl rfl (i := k_t) (vp_in_iff.mpr ⟨by omega, by omega⟩) dX11_wander_155 ?_
                  refine g5_tl (v := 0) rfl ?_
                  refine lv_iload hx hb dX11_wander_156 (lv_at hl 0 rfl) ?_
                  have hPc := hP.sub (ws' := []) [] rfl
                  have hDc := hD.sub (ws' := []) [] (by decide) rfl
                  have hFc := va_free (wc := []) hD hS hA [] rfl
                  refine va_calli (va_runS (As := [.long 0, .int k_a]) (rest := []) ⟨hx, hb, hml, hown, hts⟩ (kX11_isOn_5 l G H.size k_a ⟨by omega, by omega⟩) (va_cwS 2 hts gS_X11_115 rfl rfl rfl hs_X11_isOn ⟨Nat.le_of_ble_eq_true rfl, Nat.le_of_ble_eq_true rfl⟩) (g5_preS hPc hK hDc hN hT hS hFc) rfl rfl hl.1 rfl (lv_room (Nat.le_of_ble_eq_true rfl)) dX11_wander_158 ⟨Nat.le_of_ble_eq_true rfl, Nat.le_of_ble_eq_true rfl⟩) hS (fun q _ h => hFc q h) hFc (fun r u t H1 locs ht hvm hw hB hz1 hk1 hS => ?_)
                  obtain ⟨hP1, hD1⟩ := hB
                  rw [ht] at hP1
                  obtain ⟨rfl, rfl⟩ := hw
                  have hP := g5_same hP hk1
                  generalize H1 = H at hP hS ⊢
                  refine lv_if_eq (tgt := 167) hx hb dX11_wander_161 (by decide) (fun c_24 => ?_) (fun c_24 => ?_)
                  ·
                    refine lv_iinc (v := (k_t + 1)) (lv' := [(7, .int (k_t + 1)), (5, .int k_a), (8, .int z21), (3, .long (((k_d * 1103) + 12345) - ((k_d * 1103) + 12345) / 1000003 * 1000003)), (6, .int 0), (0, .ref a_x), (1, .int p_s), (2, .int p_c)]) hx hb dX11_wander_167 hl (k := 3) rfl rfl (by decide) rfl (fun ls hl => ?_)
                    have t_25 : (k_t + 1).toInt = k_t.toInt + 1 := g5_iadd (a := k_t.toInt) (b := 1) rfl (by decide) (by omega) (by omega)
                    refine lv_goto (tgt := 68) hx hb dX11_wander_170 (by decide) ?_
                    exact ih_68_14 ((k_t + 1), k_a, (((k_d * 1103) + 12345) - ((k_d * 1103) + 12345) / 1000003 * 1000003), (upd k_f k_t.toNatClampNeg k_a)) ls H locs (show Int.toNat (24 - (k_t + 1).toInt) < Int.toNat (24 - k_t.toInt) by omega) ⟨lv_sub hl [3, 1, 0, 4, 5, 6, 7] rfl, hP, hD, hS, ⟨by omega, by omega⟩, ⟨by omega, by omega⟩⟩
                  ·
                    exact absurd c_24 (by decide)
                ·
                  have i_23 : z21.toInt ≠ (-1) := by have z := g5_eqN (a := z21.toInt) (b := (-1)) (by rfl) (by decide) c_23; omega
                  refine lv_aload_n hx hb dX11_wander_113 rfl (lv_at hl 5 rfl) ?_
                  refine va_get (D := G.1) (ci := 11) (v := .ref a_1) (C := RX11) (T := TX11) (N := 17) hx hb hts inG_X11 hown hK hP 0 rfl rfl 0 (by decide) (hts _ fl_X11_12) (fun _ h9 => h9) rfl dX11_wander_114 ?_
                  refine va_get (D := G.1) (ci := 1) (v := .long 0) (C := RX1) (T := TX1) (N := 13) hx hb hts inG_X1 hown hK hP 4 rfl rfl 0 (by decide) (hts _ fl_X11_111) (fun _ h9 => h9) rfl dX11_wander_117 ?_
                  refine lv_iload hx hb dX11_wander_120 (lv_at hl 0 rfl) ?_
                  have hPc := hP.sub (ws' := []) [] rfl
                  have hDc := hD.sub (ws' := []) [] (by decide) rfl
                  have hFc := va_free (wc := []) hD hS hA [] rfl
                  refine va_calli (va_runS (As := [.long 0, .int z21]) (rest := []) ⟨hx, hb, hml, hown, hts⟩ (kX11_isOn_5 l G H.size z21 ⟨by omega, by omega⟩) (va_cwS 2 hts gS_X11_115 rfl rfl rfl hs_X11_isOn ⟨Nat.le_of_ble_eq_true rfl, Nat.le_of_ble_eq_true rfl⟩) (g5_preS hPc hK hDc hN hT hS hFc) rfl rfl hl.1 rfl (lv_room (Nat.le_of_ble_eq_true rfl)) dX11_wander_122 ⟨Nat.le_of_ble_eq_true rfl, Nat.le_of_ble_eq_true rfl⟩) hS (fun q _ h => hFc q h) hFc (fun r u t H1 locs ht hvm hw hB hz1 hk1 hS => ?_)
                  obtain ⟨hP1, hD1⟩ := hB
                  rw [ht] at hP1
                  obtain ⟨rfl, rfl⟩ := hw
                  have hP := g5_same hP hk1
                  generalize H1 = H at hP hS ⊢
                  refine lv_if_eq (tgt := 133) hx hb dX11_wander_125 (by decide) (fun c_26 => ?_) (fun c_26 => ?_)
                  ·
                    refine lv_iload hx hb dX11_wander_133 (lv_at hl 0 rfl) ?_
                    refine lv_istore (lv' := [(5, .int z21), (8, .int z21), (3, .long (((k_d * 1103) + 12345) - ((k_d * 1103) + 12345) / 1000003 * 1000003)), (7, .int k_t), (6, .int 0), (0, .ref a_x), (1, .int p_s), (2, .int p_c)]) hx hb dX11_wander_135 hl (by decide) rfl (fun ls hl => ?_)
                    refine lv_aload_n hx hb dX11_wander_137 rfl (lv_at hl 5 rfl) ?_
                    refine va_get (D := G.1) (ci := 11) (v := .ref a_70) (C := RX11) (T := TX11) (N := 17) hx hb hts inG_X11 hown hK hP 0 rfl rfl 13 (by decide) (hts _ fl_X11_84) (fun _ h9 => h9) rfl dX11_wander_138 ?_
                    refine lv_iload hx hb dX11_wander_141 (lv_at hl 3 rfl) ?_
                    refine lv_iload hx hb dX11_wander_143 (lv_at hl 0 rfl) ?_
                    refine va_iast hx hb hK hP hD hS 2 0 rfl rfl (i := k_t) (x := z21) (vp_in_iff.mpr ⟨by omega, by omega⟩) dX11_wander_145 (fun H locs hP hD hS => ?_)
                    have hP : va_P G.1 vwCl [(a_x, .inr (11, [.ref a_1, .ref a_14, .ref a_41, .ref a_42, .ref a_47, .ref a_49, .ref a_57, .ref a_58, .ref a_61, .ref a_69, .int 0, .int 0, .int (-1), .ref a_70, .int 1, .ref a_71, .int 0])), (a_71, .inl (G.2 0, 5, .inl (fun _ => 0))), (a_70, .inl (G.2 0, 24, .inl (upd k_f k_t.toNatClampNeg z21))), (a_47, .inr (10, [.ref a_1, .ref a_42, .ref a_48])), (a_1, .inr (1, [.long 0, .int 1000, .int (-1), .int (-1), .int 0, .ref a_2, .ref a_3, .ref a_5, .ref a_7, .ref a_9, .ref a_11, .long 0, .ref a_13])), (a_5, .inr (6, [.int 5, .int 24, .ref a_6, .int 0])), (a_48, .inl (G.2 1, 24, .inr (.inl (fun _ => 0))))] H := hP
                    have hD : va_D A [(a_x, .inr (11, [.ref a_1, .ref a_14, .ref a_41, .ref a_42, .ref a_47, .ref a_49, .ref a_57, .ref a_58, .ref a_61, .ref a_69, .int 0, .int 0, .int (-1), .ref a_70, .int 1, .ref a_71, .int 0])), (a_71, .inl (G.2 0, 5, .inl (fun _ => 0))), (a_70, .inl (G.2 0, 24, .inl (upd k_f k_t.toNatClampNeg z21))), (a_47, .inr (10, [.ref a_1, .ref a_42, .ref a_48])), (a_1, .inr (1, [.long 0, .int 1000, .int (-1), .int (-1), .int 0, .ref a_2, .ref a_3, .ref a_5, .ref a_7, .ref a_9, .ref a_11, .long 0, .ref a_13])), (a_5, .inr (6, [.int 5, .int 24, .ref a_6, .int 0])), (a_48, .inl (G.2 1, 24, .inr (.inl (fun _ => 0))))] := hD
                    refine lv_aload_n hx hb dX11_wander_146 rfl (lv_at hl 5 rfl) ?_
                    refine va_get (D := G.1) (ci := 11) (v := .ref a_47) (C := RX11) (T := TX11) (N := 17) hx hb hts inG_X11 hown hK hP 0 rfl rfl 4 (by decide) (hts _ fl_X11_38) (fun _ h9 => h9) rfl dX11_wander_147 ?_
                    refine va_get (D := G.1) (ci := 10) (v := .ref a_48) (C := RX10) (T := TX10) (N := 3) hx hb hts inG_X10 hown hK hP 3 rfl rfl 2 (by decide) (hts _ fl_X11_257) (fun _ h9 => h9) rfl dX11_wander_150 ?_
                    refine lv_iload hx hb dX11_wander_153 (lv_at hl 3 rfl) ?_
                    refine va_lald hx hb hK hP 6 1 rfl rfl (i := k_t) (vp_in_iff.mpr ⟨by omega, by omega⟩) dX11_wander_155 ?_
                    refine g5_tl (v := 0) rfl ?_
                    refine lv_iload hx hb dX11_wander_156 (lv_at hl 0 rfl) ?_
                    have hPc := hP.sub (ws' := []) [] rfl
                    have hDc := hD.sub (ws' := []) [] (by decide) rfl
                    have hFc := va_free (wc := []) hD hS hA [] rfl
                    refine va_calli (va_runS (As := [.long 0, .int z21]) (rest := []) ⟨hx, hb, hml, hown, hts⟩ (kX11_isOn_5 l G H.size z21 ⟨by omega, by omega⟩) (va_cwS 2 hts gS_X11_115 rfl rfl rfl hs_X11_isOn ⟨Nat.le_of_ble_eq_true rfl, Nat.le_of_ble_eq_true rfl⟩) (g5_preS hPc hK hDc hN hT hS hFc) rfl rfl hl.1 rfl (lv_room (Nat.le_of_ble_eq_true rfl)) dX11_wander_158 ⟨Nat.le_of_ble_eq_true rfl, Nat.le_of_ble_eq_true rfl⟩) hS (fun q _ h => hFc q h) hFc (fun r u t H1 locs ht hvm hw hB hz1 hk1 hS => ?_)
                    obtain ⟨hP1, hD1⟩ := hB
                    rw [ht] at hP1
                    obtain ⟨rfl, rfl⟩ := hw
                    have hP := g5_same hP hk1
                    generalize H1 = H at hP hS ⊢
                    refine lv_if_eq (tgt := 167) hx hb dX11_wander_161 (by decide) (fun c_27 => ?_) (fun c_27 => ?_)
                    ·
                      refine lv_iinc (v := (k_t + 1)) (lv' := [(7, .int (k_t + 1)), (5, .int z21), (8, .int z21), (3, .long (((k_d * 1103) + 12345) - ((k_d * 1103) + 12345) / 1000003 * 1000003)), (6, .int 0), (0, .ref a_x), (1, .int p_s), (2, .int p_c)]) hx hb dX11_wander_167 hl (k := 3) rfl rfl (by decide) rfl (fun ls hl => ?_)
                      have t_28 : (k_t + 1).toInt = k_t.toInt + 1 := g5_iadd (a := k_t.toInt) (b := 1) rfl (by decide) (by omega) (by omega)
                      refine lv_goto (tgt := 68) hx hb dX11_wander_170 (by decide) ?_
                      exact ih_68_14 ((k_t + 1), z21, (((k_d * 1103) + 12345) - ((k_d * 1103) + 12345) / 1000003 * 1000003), (upd k_f k_t.toNatClampNeg z21)) ls H locs (show Int.toNat (24 - (k_t + 1).toInt) < Int.toNat (24 - k_t.toInt) by omega) ⟨lv_sub hl [3, 1, 0, 4, 5, 6, 7] rfl, hP, hD, hS, ⟨by omega, by omega⟩, ⟨by omega, by omega⟩⟩
                    ·
                      exact absurd c_27 (by decide)
                  ·
                    exact absurd c_26 (by decide)
          ·
            exact absurd c_11 (by decide)
        ·
          exact absurd c_10 (by decide)
theorem dX11_isFlag_0 : decode cX11_isFlag 0 = .ok (.iload_n 0, 1) := by decide +kernel
theorem dX11_isFlag_1 : decode cX11_isFlag 1 = .ok (.ifCond .eq 8, 3) := by decide +kernel
theorem dX11_isFlag_4 : decode cX11_isFlag 4 = .ok (.iload_n 0, 1) := by decide +kernel
theorem dX11_isFlag_5 : decode cX11_isFlag 5 = .ok (.iconst 1, 1) := by decide +kernel
theorem dX11_isFlag_6 : decode cX11_isFlag 6 = .ok (.if_icmp .ne 7, 3) := by decide +kernel
theorem dX11_isFlag_9 : decode cX11_isFlag 9 = .ok (.iconst 1, 1) := by decide +kernel
theorem dX11_isFlag_10 : decode cX11_isFlag 10 = .ok (.goto 4, 3) := by decide +kernel
theorem dX11_isFlag_13 : decode cX11_isFlag 13 = .ok (.iconst 0, 1) := by decide +kernel
theorem dX11_isFlag_14 : decode cX11_isFlag 14 = .ok (.ireturn, 1) := by decide +kernel
set_option maxHeartbeats 4000000 in
set_option maxRecDepth 100000 in
theorem kX11_isFlag (l : Launch) (G : g5_G) (sz : Nat) (n0 : Int32) : Met l yX11_isFlag (wsG yX11_isFlag cX11_isFlag 1 (some .boolean)) ({ frames := 0, cells := 0, slots := 0, locals := 0 }) (va_Pc [.int n0] (g5_P G [] sz)) (va_Qi (fun (r : Int32) (u : va_W) => ((n0.toInt = 0) ∧ (r = 1) ∧ (u = [])) ∨ ((n0.toInt ≠ 0) ∧ (n0.toInt ≠ 1) ∧ (r = 0) ∧ (u = [])) ∨ ((n0.toInt ≠ 0) ∧ (n0.toInt = 1) ∧ (r = 1) ∧ (u = []))) (g5_B G (va_A [] sz)) (va_A [] sz)) 0 0 (va_A [] sz) := by
  refine Met.ofW (cc := cX11_isFlag) (maxL := 1) (ret := (some .boolean)) (by decide) rfl ?_
  intro p e s m args below meth c s₁ B hml hv
  obtain ⟨rfl, hsz, hP, hK, hD0, hN, hT⟩ := hv
  have hx := B.exec
  have hb := B.bytes
  have hr := B.returns
  have hts : ∀ w ∈ tblG, w.before _ s = true := fun w h => atoms_spec (ws := (wsG yX11_isFlag cX11_isFlag 1 (some .boolean))) B.pre w (List.mem_cons_of_mem _ h)
  have hown : s.vm.findClass RX11 = some m.cls := findClass_of_methodNamed B.named
  have hlocks := B.notSynchronized
  subst hsz
  have hD := hD0.self (sz := s.heap.size)
  generalize hAe : va_A [] s.heap.size = A at hD hT ⊢
  have hA : ∀ q : Nat, s.heap.size ≤ q → A q := fun q h => by rw [← hAe]; exact Or.inr h
  have hS : va_S A s.heap s.heap [] := va_S.rf
  have hP : va_P G.1 vwCl [] s.heap := hP
  have hl := lv_entry ([.int n0]) (n := 1) (Nat.le_of_ble_eq_true rfl)
  rw [lg_entry_eq]
  generalize (lg_sl ([.int n0]) ++ List.replicate (1 - (lg_sl ([.int n0])).length) Slot.unset).toArray = ls at hl ⊢
  have hl : lv_has ls 1 [(0, .int n0)] := hl
  refine lv_iload_n hx hb dX11_isFlag_0 rfl (lv_at hl 0 rfl) ?_
  refine lv_if_eq (tgt := 9) hx hb dX11_isFlag_1 (by decide) (fun c_1 => ?_) (fun c_1 => ?_)
  ·
    have i_1 : n0.toInt = 0 := by have z := g5_eq (a := n0.toInt) (b := 0) (by rfl) (by decide) c_1; omega
    refine lv_iconst (v := 1) hx hb dX11_isFlag_9 (by decide) ?_
    refine lv_goto (tgt := 14) hx hb dX11_isFlag_10 (by decide) ?_
    exact W.zret (v := 1) hx hb hr rfl (fun t ht hW => ⟨⟨1, [], rfl, Or.inl (⟨i_1, rfl, rfl⟩), by rw [ht]; exact hP, hD⟩, hS.F ht⟩) hS.2.2 dX11_isFlag_14
  ·
    have i_1 : n0.toInt ≠ 0 := by have z := g5_eqN (a := n0.toInt) (b := 0) (by rfl) (by decide) c_1; omega
    refine lv_iload_n hx hb dX11_isFlag_4 rfl (lv_at hl 0 rfl) ?_
    refine lv_iconst (v := 1) hx hb dX11_isFlag_5 (by decide) ?_
    refine lv_icmp_ne (tgt := 13) hx hb dX11_isFlag_6 (by decide) (fun c_2 => ?_) (fun c_2 => ?_)
    ·
      have i_2 : n0.toInt ≠ 1 := by have z := g5_ne (a := n0.toInt) (b := 1) (by rfl) (by decide) c_2; omega
      refine lv_iconst (v := 0) hx hb dX11_isFlag_13 (by decide) ?_
      exact W.zret (v := 0) hx hb hr rfl (fun t ht hW => ⟨⟨0, [], rfl, Or.inr (Or.inl (⟨i_1, i_2, rfl, rfl⟩)), by rw [ht]; exact hP, hD⟩, hS.F ht⟩) hS.2.2 dX11_isFlag_14
    ·
      have i_2 : n0.toInt = 1 := by have z := g5_neN (a := n0.toInt) (b := 1) (by rfl) (by decide) c_2; omega
      refine lv_iconst (v := 1) hx hb dX11_isFlag_9 (by decide) ?_
      refine lv_goto (tgt := 14) hx hb dX11_isFlag_10 (by decide) ?_
      exact W.zret (v := 1) hx hb hr rfl (fun t ht hW => ⟨⟨1, [], rfl, Or.inr (Or.inr (⟨i_1, i_2, rfl, rfl⟩)), by rw [ht]; exact hP, hD⟩, hS.F ht⟩) hS.2.2 dX11_isFlag_14
theorem ml_X11_101 : Cond.methodLink RX11 101 yX11_isFlag ∈ tblG := tg 503 (by decide +kernel) (by decide +kernel)
theorem st_X11_isFlag : Cond.static yX11_isFlag ∈ tblG := tg 504 (by decide +kernel) (by decide +kernel)
theorem cd_X11_isFlag : Cond.code yX11_isFlag cX11_isFlag 1 (some .boolean) ∈ tblG := tg 505 (by decide +kernel) (by decide +kernel)
theorem gW_X11_isFlag : GoodIn tblG (wsG yX11_isFlag cX11_isFlag 1 (some .boolean)) := tgi cd_X11_isFlag
theorem gS_X11_101 : GoodIn tblG (va_wsS RX11 101 yX11_isFlag (wsG yX11_isFlag cX11_isFlag 1 (some .boolean))) := tgS ml_X11_101 st_X11_isFlag ini_X11 gW_X11_isFlag
theorem hs_X11_isFlag : yX11_isFlag.cls ≠ "java/lang/invoke/MethodHandle" ∧ yX11_isFlag.cls ≠ "java/lang/invoke/VarHandle" ∧ (parseMethodDescriptor yX11_isFlag.desc).map (fun d => d.parameters.length) = some 1 := by decide +kernel
theorem dX6_find_0 : decode cX6_find 0 = .ok (.iconst 0, 1) := by decide +kernel
theorem dX6_find_1 : decode cX6_find 1 = .ok (.istore_n 3, 1) := by decide +kernel
theorem dX6_find_2 : decode cX6_find 2 = .ok (.iload_n 3, 1) := by decide +kernel
theorem dX6_find_3 : decode cX6_find 3 = .ok (.aload_n 0, 1) := by decide +kernel
theorem dX6_find_4 : decode cX6_find 4 = .ok (.getfield 9, 3) := by decide +kernel
theorem dX6_find_7 : decode cX6_find 7 = .ok (.if_icmp .ge 21, 3) := by decide +kernel
theorem dX6_find_10 : decode cX6_find 10 = .ok (.aload_n 0, 1) := by decide +kernel
theorem dX6_find_11 : decode cX6_find 11 = .ok (.iload_n 3, 1) := by decide +kernel
theorem dX6_find_12 : decode cX6_find 12 = .ok (.iload_n 1, 1) := by decide +kernel
theorem dX6_find_13 : decode cX6_find 13 = .ok (.invokevirtual 43, 3) := by decide +kernel
theorem dX6_find_16 : decode cX6_find 16 = .ok (.iload_n 2, 1) := by decide +kernel
theorem dX6_find_17 : decode cX6_find 17 = .ok (.if_icmp .ne 5, 3) := by decide +kernel
theorem dX6_find_20 : decode cX6_find 20 = .ok (.iload_n 3, 1) := by decide +kernel
theorem dX6_find_21 : decode cX6_find 21 = .ok (.ireturn, 1) := by decide +kernel
theorem dX6_find_22 : decode cX6_find 22 = .ok (.iinc 3 1, 3) := by decide +kernel
theorem dX6_find_25 : decode cX6_find 25 = .ok (.goto (-23), 3) := by decide +kernel
theorem dX6_find_28 : decode cX6_find 28 = .ok (.iconst (-1), 1) := by decide +kernel
theorem dX6_find_29 : decode cX6_find 29 = .ok (.ireturn, 1) := by decide +kernel
set_option maxHeartbeats 4000000 in
set_option maxRecDepth 100000 in
theorem kX6_find (l : Launch) (G : g5_G) (a0 a1 : Nat) (sz : Nat) (n0 : Int32) (h_n0 : 0 ≤ n0.toInt ∧ n0.toInt ≤ 63) : Met l yX6_find (wsG yX6_find cX6_find 4 (some .int)) ({ frames := 0, cells := 0, slots := 0, locals := 0 }) (va_Pc [.ref a0, .int 0, .int n0] (g5_P G [(a0, .inr (6, [.int 8, .int 5, .ref a1, .int 0]))] sz)) (va_Qi (fun (r : Int32) (u : va_W) => ((r = (-1)) ∧ (u = [(a0, .inr (6, [.int 8, .int 5, .ref a1, .int 0]))]))) (g5_B G (va_A [(a0, .inr (6, [.int 8, .int 5, .ref a1, .int 0]))] sz)) (va_A [(a0, .inr (6, [.int 8, .int 5, .ref a1, .int 0]))] sz)) 0 0 (va_A [(a0, .inr (6, [.int 8, .int 5, .ref a1, .int 0]))] sz) := by
  refine Met.ofW (cc := cX6_find) (maxL := 4) (ret := (some .int)) (by decide) rfl ?_
  intro p e s m args below meth c s₁ B hml hv
  obtain ⟨rfl, hsz, hP, hK, hD0, hN, hT⟩ := hv
  have hx := B.exec
  have hb := B.bytes
  have hr := B.returns
  have hts : ∀ w ∈ tblG, w.before _ s = true := fun w h => atoms_spec (ws := (wsG yX6_find cX6_find 4 (some .int))) B.pre w (List.mem_cons_of_mem _ h)
  have hown : s.vm.findClass RX6 = some m.cls := findClass_of_methodNamed B.named
  have hlocks := B.notSynchronized
  subst hsz
  have hD := hD0.self (sz := s.heap.size)
  generalize hAe : va_A [(a0, .inr (6, [.int 8, .int 5, .ref a1, .int 0]))] s.heap.size = A at hD hT ⊢
  have hA : ∀ q : Nat, s.heap.size ≤ q → A q := fun q h => by rw [← hAe]; exact Or.inr h
  have hS : va_S A s.heap s.heap [] := va_S.rf
  have hP : va_P G.1 vwCl [(a0, .inr (6, [.int 8, .int 5, .ref a1, .int 0]))] s.heap := hP
  have hl := lv_entry ([.ref a0, .int 0, .int n0]) (n := 4) (Nat.le_of_ble_eq_true rfl)
  rw [lg_entry_eq]
  generalize (lg_sl ([.ref a0, .int 0, .int n0]) ++ List.replicate (4 - (lg_sl ([.ref a0, .int 0, .int n0])).length) Slot.unset).toArray = ls at hl ⊢
  have hl : lv_has ls 4 [(0, .ref a0), (1, .int 0), (2, .int n0)] := hl
  refine lv_iconst (v := 0) hx hb dX6_find_0 (by decide) ?_
  refine lv_istore_n (lv' := [(3, .int 0), (0, .ref a0), (1, .int 0), (2, .int n0)]) hx hb dX6_find_1 rfl hl (by decide) rfl (fun ls hl => ?_)
  refine lv_iload_n hx hb dX6_find_2 rfl (lv_at hl 0 rfl) ?_
  refine lv_aload_n hx hb dX6_find_3 rfl (lv_at hl 1 rfl) ?_
  refine va_get (D := G.1) (ci := 6) (v := .int 0) (C := RX6) (T := TX6) (N := 4) hx hb hts inG_X6 hown hK hP 0 rfl rfl 3 (by decide) (hts _ fl_X6_9) (fun _ h9 => h9) rfl dX6_find_4 ?_
  refine lv_icmp_ge (tgt := 28) hx hb dX6_find_7 (by decide) (fun c_1 => ?_) (fun c_1 => ?_)
  ·
    refine lv_iconst (v := (-1)) hx hb dX6_find_28 (by decide) ?_
    exact W.iret (v := (-1)) hx hb hr (fun t ht hW => ⟨⟨(-1), [(a0, .inr (6, [.int 8, .int 5, .ref a1, .int 0]))], rfl, ⟨rfl, rfl⟩, by rw [ht]; exact hP, hD⟩, hS.F ht⟩) hS.2.2 dX6_find_29
  ·
    exact absurd c_1 (by decide)
theorem ml_X1_66 : Cond.methodLink RX1 66 yX6_find ∈ tblG := tg 517 (by decide +kernel) (by decide +kernel)
theorem im_X6_find : Cond.instanceMethod yX6_find ∈ tblG := tg 518 (by decide +kernel) (by decide +kernel)
theorem se_X6_find : Cond.selects RX6 yX6_find yX6_find ∈ tblG := tg 519 (by decide +kernel) (by decide +kernel)
theorem cd_X6_find : Cond.code yX6_find cX6_find 4 (some .int) ∈ tblG := tg 520 (by decide +kernel) (by decide +kernel)
theorem gW_X6_find : GoodIn tblG (wsG yX6_find cX6_find 4 (some .int)) := tgi cd_X6_find
theorem gV_X1_66 : GoodIn tblG (wsV RX1 66 RX6 yX6_find (wsG yX6_find cX6_find 4 (some .int))) := tgV ml_X1_66 im_X6_find se_X6_find ini_X6 gW_X6_find
theorem hv_X6_find : yX6_find.cls = RX6 ∧ yX6_find.cls ≠ "java/lang/invoke/MethodHandle" ∧ yX6_find.cls ≠ "java/lang/invoke/VarHandle" ∧ (parseMethodDescriptor yX6_find.desc).map (fun d => d.parameters.length) = some 2 := by decide +kernel
theorem dX1_isTaken_0 : decode cX1_isTaken 0 = .ok (.iconst 0, 1) := by decide +kernel
theorem dX1_isTaken_1 : decode cX1_isTaken 1 = .ok (.istore_n 2, 1) := by decide +kernel
theorem dX1_isTaken_2 : decode cX1_isTaken 2 = .ok (.iload_n 2, 1) := by decide +kernel
theorem dX1_isTaken_3 : decode cX1_isTaken 3 = .ok (.bipush 24, 2) := by decide +kernel
theorem dX1_isTaken_5 : decode cX1_isTaken 5 = .ok (.if_icmp .ge 24, 3) := by decide +kernel
theorem dX1_isTaken_8 : decode cX1_isTaken 8 = .ok (.aload_n 0, 1) := by decide +kernel
theorem dX1_isTaken_9 : decode cX1_isTaken 9 = .ok (.getfield 58, 3) := by decide +kernel
theorem dX1_isTaken_12 : decode cX1_isTaken 12 = .ok (.iload_n 2, 1) := by decide +kernel
theorem dX1_isTaken_13 : decode cX1_isTaken 13 = .ok (.laload, 1) := by decide +kernel
theorem dX1_isTaken_14 : decode cX1_isTaken 14 = .ok (.iload_n 1, 1) := by decide +kernel
theorem dX1_isTaken_15 : decode cX1_isTaken 15 = .ok (.invokestatic 62, 3) := by decide +kernel
theorem dX1_isTaken_18 : decode cX1_isTaken 18 = .ok (.ifCond .eq 5, 3) := by decide +kernel
theorem dX1_isTaken_21 : decode cX1_isTaken 21 = .ok (.iconst 1, 1) := by decide +kernel
theorem dX1_isTaken_22 : decode cX1_isTaken 22 = .ok (.ireturn, 1) := by decide +kernel
theorem dX1_isTaken_23 : decode cX1_isTaken 23 = .ok (.iinc 2 1, 3) := by decide +kernel
theorem dX1_isTaken_26 : decode cX1_isTaken 26 = .ok (.goto (-24), 3) := by decide +kernel
theorem dX1_isTaken_29 : decode cX1_isTaken 29 = .ok (.aload_n 0, 1) := by decide +kernel
theorem dX1_isTaken_30 : decode cX1_isTaken 30 = .ok (.getfield 55, 3) := by decide +kernel
theorem dX1_isTaken_33 : decode cX1_isTaken 33 = .ok (.iload_n 1, 1) := by decide +kernel
theorem dX1_isTaken_34 : decode cX1_isTaken 34 = .ok (.invokestatic 62, 3) := by decide +kernel
theorem dX1_isTaken_37 : decode cX1_isTaken 37 = .ok (.ifCond .ne 24, 3) := by decide +kernel
theorem dX1_isTaken_40 : decode cX1_isTaken 40 = .ok (.aload_n 0, 1) := by decide +kernel
theorem dX1_isTaken_41 : decode cX1_isTaken 41 = .ok (.getfield 49, 3) := by decide +kernel
theorem dX1_isTaken_44 : decode cX1_isTaken 44 = .ok (.iconst 0, 1) := by decide +kernel
theorem dX1_isTaken_45 : decode cX1_isTaken 45 = .ok (.iload_n 1, 1) := by decide +kernel
theorem dX1_isTaken_46 : decode cX1_isTaken 46 = .ok (.invokevirtual 66, 3) := by decide +kernel
theorem dX1_isTaken_49 : decode cX1_isTaken 49 = .ok (.iconst (-1), 1) := by decide +kernel
theorem dX1_isTaken_50 : decode cX1_isTaken 50 = .ok (.if_icmp .ne 11, 3) := by decide +kernel
theorem dX1_isTaken_53 : decode cX1_isTaken 53 = .ok (.aload_n 0, 1) := by decide +kernel
theorem dX1_isTaken_54 : decode cX1_isTaken 54 = .ok (.getfield 19, 3) := by decide +kernel
theorem dX1_isTaken_57 : decode cX1_isTaken 57 = .ok (.iload_n 1, 1) := by decide +kernel
theorem dX1_isTaken_58 : decode cX1_isTaken 58 = .ok (.if_icmp .ne 7, 3) := by decide +kernel
theorem dX1_isTaken_61 : decode cX1_isTaken 61 = .ok (.iconst 1, 1) := by decide +kernel
theorem dX1_isTaken_62 : decode cX1_isTaken 62 = .ok (.goto 4, 3) := by decide +kernel
theorem dX1_isTaken_65 : decode cX1_isTaken 65 = .ok (.iconst 0, 1) := by decide +kernel
theorem dX1_isTaken_66 : decode cX1_isTaken 66 = .ok (.ireturn, 1) := by decide +kernel
set_option maxHeartbeats 4000000 in
set_option maxRecDepth 100000 in
theorem kX1_isTaken (l : Launch) (G : g5_G) (a0 a1 a2 a3 a4 a5 a6 a7 a8 : Nat) (sz : Nat) (n0 : Int32) (h_n0 : 0 ≤ n0.toInt ∧ n0.toInt ≤ 63) : Met l yX1_isTaken (wsG yX1_isTaken cX1_isTaken 3 (some .boolean)) ({ frames := 1, cells := 0, slots := 0, locals := 23 }) (va_Pc [.ref a0, .int n0] (g5_P G [(a0, .inr (1, [.long 0, .int 1000, .int (-1), .int (-1), .int 0, .ref a1, .ref a2, .ref a3, .ref a4, .ref a5, .ref a6, .long 0, .ref a7])), (a7, .inl (G.2 1, 24, .inr (.inl (fun _ => 0)))), (a5, .inr (6, [.int 8, .int 5, .ref a8, .int 0]))] sz)) (va_Qi (fun (r : Int32) (u : va_W) => (((-1) ≠ n0.toInt) ∧ (r = 0) ∧ (u = [(a0, .inr (1, [.long 0, .int 1000, .int (-1), .int (-1), .int 0, .ref a1, .ref a2, .ref a3, .ref a4, .ref a5, .ref a6, .long 0, .ref a7])), (a7, .inl (G.2 1, 24, .inr (.inl (fun _ => 0)))), (a5, .inr (6, [.int 8, .int 5, .ref a8, .int 0]))]))) (g5_B G (va_A [(a0, .inr (1, [.long 0, .int 1000, .int (-1), .int (-1), .int 0, .ref a1, .ref a2, .ref a3, .ref a4, .ref a5, .ref a6, .long 0, .ref a7])), (a7, .inl (G.2 1, 24, .inr (.inl (fun _ => 0)))), (a5, .inr (6, [.int 8, .int 5, .ref a8, .int 0]))] sz)) (va_A [(a0, .inr (1, [.long 0, .int 1000, .int (-1), .int (-1), .int 0, .ref a1, .ref a2, .ref a3, .ref a4, .ref a5, .ref a6, .long 0, .ref a7])), (a7, .inl (G.2 1, 24, .inr (.inl (fun _ => 0)))), (a5, .inr (6, [.int 8, .int 5, .ref a8, .int 0]))] sz)) 0 0 (va_A [(a0, .inr (1, [.long 0, .int 1000, .int (-1), .int (-1), .int 0, .ref a1, .ref a2, .ref a3, .ref a4, .ref a5, .ref a6, .long 0, .ref a7])), (a7, .inl (G.2 1, 24, .inr (.inl (fun _ => 0)))), (a5, .inr (6, [.int 8, .int 5, .ref a8, .int 0]))] sz) := by
  refine Met.ofW (cc := cX1_isTaken) (maxL := 3) (ret := (some .boolean)) (by decide) rfl ?_
  intro p e s m args below meth c s₁ B hml hv
  obtain ⟨rfl, hsz, hP, hK, hD0, hN, hT⟩ := hv
  have hx := B.exec
  have hb := B.bytes
  have hr := B.returns
  have hts : ∀ w ∈ tblG, w.before _ s = true := fun w h => atoms_spec (ws := (wsG yX1_isTaken cX1_isTaken 3 (some .boolean))) B.pre w (List.mem_cons_of_mem _ h)
  have hown : s.vm.findClass RX1 = some m.cls := findClass_of_methodNamed B.named
  have hlocks := B.notSynchronized
  subst hsz
  have hD := hD0.self (sz := s.heap.size)
  generalize hAe : va_A [(a0, .inr (1, [.long 0, .int 1000, .int (-1), .int (-1), .int 0, .ref a1, .ref a2, .ref a3, .ref a4, .ref a5, .ref a6, .long 0, .ref a7])), (a7, .inl (G.2 1, 24, .inr (.inl (fun _ => 0)))), (a5, .inr (6, [.int 8, .int 5, .ref a8, .int 0]))] s.heap.size = A at hD hT ⊢
  have hA : ∀ q : Nat, s.heap.size ≤ q → A q := fun q h => by rw [← hAe]; exact Or.inr h
  have hS : va_S A s.heap s.heap [] := va_S.rf
  have hP : va_P G.1 vwCl [(a0, .inr (1, [.long 0, .int 1000, .int (-1), .int (-1), .int 0, .ref a1, .ref a2, .ref a3, .ref a4, .ref a5, .ref a6, .long 0, .ref a7])), (a7, .inl (G.2 1, 24, .inr (.inl (fun _ => 0)))), (a5, .inr (6, [.int 8, .int 5, .ref a8, .int 0]))] s.heap := hP
  have hl := lv_entry ([.ref a0, .int n0]) (n := 3) (Nat.le_of_ble_eq_true rfl)
  rw [lg_entry_eq]
  generalize (lg_sl ([.ref a0, .int n0]) ++ List.replicate (3 - (lg_sl ([.ref a0, .int n0])).length) Slot.unset).toArray = ls at hl ⊢
  have hl : lv_has ls 3 [(0, .ref a0), (1, .int n0)] := hl
  refine lv_iconst (v := 0) hx hb dX1_isTaken_0 (by decide) ?_
  refine lv_istore_n (lv' := [(2, .int 0), (0, .ref a0), (1, .int n0)]) hx hb dX1_isTaken_1 rfl hl (by decide) rfl (fun ls hl => ?_)
  refine lv_iload_n hx hb dX1_isTaken_2 rfl (lv_at hl 0 rfl) ?_
  refine lv_bipush (v := 24) hx hb dX1_isTaken_3 (by decide) ?_
  refine lv_icmp_ge (tgt := 29) hx hb dX1_isTaken_5 (by decide) (fun c_1 => ?_) (fun c_1 => ?_)
  ·
    exact absurd c_1 (by decide)
  ·
    refine lv_aload_n hx hb dX1_isTaken_8 rfl (lv_at hl 1 rfl) ?_
    refine va_get (D := G.1) (ci := 1) (v := .ref a7) (C := RX1) (T := TX1) (N := 13) hx hb hts inG_X1 hown hK hP 0 rfl rfl 12 (by decide) (hts _ fl_X1_58) (fun _ h9 => h9) rfl dX1_isTaken_9 ?_
    refine lv_iload_n hx hb dX1_isTaken_12 rfl (lv_at hl 0 rfl) ?_
    refine va_lald hx hb hK hP 1 1 rfl rfl (i := 0) (by unfold vp_in; decide) dX1_isTaken_13 ?_
    refine g5_tl (v := 0) rfl ?_
    refine lv_iload_n hx hb dX1_isTaken_14 rfl (lv_at hl 2 rfl) ?_
    have hPc := hP.sub (ws' := []) [] rfl
    have hDc := hD.sub (ws' := []) [] (by decide) rfl
    have hFc := va_free (wc := []) hD hS hA [] rfl
    refine va_calli (va_runSN (As := [.long 0, .int n0]) (rest := []) ⟨hx, hb, hml, hown, hts⟩ (kX11_isOn_5 l G s.heap.size n0 ⟨by omega, by omega⟩) ⟨va_cnB 2 hts gW_X11_isOn rfl rfl rfl (hN.1 _ g5_nw_X1_62) (hts _ ini_X11) hs_X11_isOn ⟨Nat.le_of_ble_eq_true rfl, Nat.le_of_ble_eq_true rfl⟩, hts _ st_X11_isOn, trivial⟩ (g5_preS hPc hK hDc hN hT hS hFc) rfl rfl hl.1 rfl (lv_room (Nat.le_of_ble_eq_true rfl)) dX1_isTaken_15 ⟨Nat.le_of_ble_eq_true rfl, Nat.le_of_ble_eq_true rfl⟩) hS (fun q _ h => hFc q h) hFc (fun r u t H1 locs ht hvm hw hB hz1 hk1 hS => ?_)
    obtain ⟨hP1, hD1⟩ := hB
    rw [ht] at hP1
    obtain ⟨rfl, rfl⟩ := hw
    have hP := g5_same hP hk1
    generalize H1 = H at hP hS ⊢
    refine lv_if_eq (tgt := 23) hx hb dX1_isTaken_18 (by decide) (fun c_2 => ?_) (fun c_2 => ?_)
    ·
      refine lv_iinc (v := 1) (lv' := [(2, .int 1), (0, .ref a0), (1, .int n0)]) hx hb dX1_isTaken_23 hl (k := 0) rfl (by decide) (by decide) rfl (fun ls hl => ?_)
      refine lv_goto (tgt := 2) hx hb dX1_isTaken_26 (by decide) ?_
      refine lv_iload_n hx hb dX1_isTaken_2 rfl (lv_at hl 0 rfl) ?_
      refine lv_bipush (v := 24) hx hb dX1_isTaken_3 (by decide) ?_
      refine lv_icmp_ge (tgt := 29) hx hb dX1_isTaken_5 (by decide) (fun c_3 => ?_) (fun c_3 => ?_)
      ·
        exact absurd c_3 (by decide)
      ·
        refine lv_aload_n hx hb dX1_isTaken_8 rfl (lv_at hl 1 rfl) ?_
        refine va_get (D := G.1) (ci := 1) (v := .ref a7) (C := RX1) (T := TX1) (N := 13) hx hb hts inG_X1 hown hK hP 0 rfl rfl 12 (by decide) (hts _ fl_X1_58) (fun _ h9 => h9) rfl dX1_isTaken_9 ?_
        refine lv_iload_n hx hb dX1_isTaken_12 rfl (lv_at hl 0 rfl) ?_
        refine va_lald hx hb hK hP 1 1 rfl rfl (i := 1) (by unfold vp_in; decide) dX1_isTaken_13 ?_
        refine g5_tl (v := 0) rfl ?_
        refine lv_iload_n hx hb dX1_isTaken_14 rfl (lv_at hl 2 rfl) ?_
        have hPc := hP.sub (ws' := []) [] rfl
        have hDc := hD.sub (ws' := []) [] (by decide) rfl
        have hFc := va_free (wc := []) hD hS hA [] rfl
        refine va_calli (va_runSN (As := [.long 0, .int n0]) (rest := []) ⟨hx, hb, hml, hown, hts⟩ (kX11_isOn_5 l G H.size n0 ⟨by omega, by omega⟩) ⟨va_cnB 2 hts gW_X11_isOn rfl rfl rfl (hN.1 _ g5_nw_X1_62) (hts _ ini_X11) hs_X11_isOn ⟨Nat.le_of_ble_eq_true rfl, Nat.le_of_ble_eq_true rfl⟩, hts _ st_X11_isOn, trivial⟩ (g5_preS hPc hK hDc hN hT hS hFc) rfl rfl hl.1 rfl (lv_room (Nat.le_of_ble_eq_true rfl)) dX1_isTaken_15 ⟨Nat.le_of_ble_eq_true rfl, Nat.le_of_ble_eq_true rfl⟩) hS (fun q _ h => hFc q h) hFc (fun r u t H1 locs ht hvm hw hB hz1 hk1 hS => ?_)
        obtain ⟨hP1, hD1⟩ := hB
        rw [ht] at hP1
        obtain ⟨rfl, rfl⟩ := hw
        have hP := g5_same hP hk1
        generalize H1 = H at hP hS ⊢
        refine lv_if_eq (tgt := 23) hx hb dX1_isTaken_18 (by decide) (fun c_4 => ?_) (fun c_4 => ?_)
        ·
          refine lv_iinc (v := 2) (lv' := [(2, .int 2), (0, .ref a0), (1, .int n0)]) hx hb dX1_isTaken_23 hl (k := 0) rfl (by decide) (by decide) rfl (fun ls hl => ?_)
          refine lv_goto (tgt := 2) hx hb dX1_isTaken_26 (by decide) ?_
          refine lv_iload_n hx hb dX1_isTaken_2 rfl (lv_at hl 0 rfl) ?_
          refine lv_bipush (v := 24) hx hb dX1_isTaken_3 (by decide) ?_
          refine lv_icmp_ge (tgt := 29) hx hb dX1_isTaken_5 (by decide) (fun c_5 => ?_) (fun c_5 => ?_)
          ·
            exact absurd c_5 (by decide)
          ·
            refine lv_aload_n hx hb dX1_isTaken_8 rfl (lv_at hl 1 rfl) ?_
            refine va_get (D := G.1) (ci := 1) (v := .ref a7) (C := RX1) (T := TX1) (N := 13) hx hb hts inG_X1 hown hK hP 0 rfl rfl 12 (by decide) (hts _ fl_X1_58) (fun _ h9 => h9) rfl dX1_isTaken_9 ?_
            refine lv_iload_n hx hb dX1_isTaken_12 rfl (lv_at hl 0 rfl) ?_
            refine va_lald hx hb hK hP 1 1 rfl rfl (i := 2) (by unfold vp_in; decide) dX1_isTaken_13 ?_
            refine g5_tl (v := 0) rfl ?_
            refine lv_iload_n hx hb dX1_isTaken_14 rfl (lv_at hl 2 rfl) ?_
            have hPc := hP.sub (ws' := []) [] rfl
            have hDc := hD.sub (ws' := []) [] (by decide) rfl
            have hFc := va_free (wc := []) hD hS hA [] rfl
            refine va_calli (va_runSN (As := [.long 0, .int n0]) (rest := []) ⟨hx, hb, hml, hown, hts⟩ (kX11_isOn_5 l G H.size n0 ⟨by omega, by omega⟩) ⟨va_cnB 2 hts gW_X11_isOn rfl rfl rfl (hN.1 _ g5_nw_X1_62) (hts _ ini_X11) hs_X11_isOn ⟨Nat.le_of_ble_eq_true rfl, Nat.le_of_ble_eq_true rfl⟩, hts _ st_X11_isOn, trivial⟩ (g5_preS hPc hK hDc hN hT hS hFc) rfl rfl hl.1 rfl (lv_room (Nat.le_of_ble_eq_true rfl)) dX1_isTaken_15 ⟨Nat.le_of_ble_eq_true rfl, Nat.le_of_ble_eq_true rfl⟩) hS (fun q _ h => hFc q h) hFc (fun r u t H1 locs ht hvm hw hB hz1 hk1 hS => ?_)
            obtain ⟨hP1, hD1⟩ := hB
            rw [ht] at hP1
            obtain ⟨rfl, rfl⟩ := hw
            have hP := g5_same hP hk1
            generalize H1 = H at hP hS ⊢
            refine lv_if_eq (tgt := 23) hx hb dX1_isTaken_18 (by decide) (fun c_6 => ?_) (fun c_6 => ?_)
            ·
              refine lv_iinc (v := 3) (lv' := [(2, .int 3), (0, .ref a0), (1, .int n0)]) hx hb dX1_isTaken_23 hl (k := 0) rfl (by decide) (by decide) rfl (fun ls hl => ?_)
              refine lv_goto (tgt := 2) hx hb dX1_isTaken_26 (by decide) ?_
              refine lv_iload_n hx hb dX1_isTaken_2 rfl (lv_at hl 0 rfl) ?_
              refine lv_bipush (v := 24) hx hb dX1_isTaken_3 (by decide) ?_
              refine lv_icmp_ge (tgt := 29) hx hb dX1_isTaken_5 (by decide) (fun c_7 => ?_) (fun c_7 => ?_)
              ·
                exact absurd c_7 (by decide)
              ·
                refine lv_aload_n hx hb dX1_isTaken_8 rfl (lv_at hl 1 rfl) ?_
                refine va_get (D := G.1) (ci := 1) (v := .ref a7) (C := RX1) (T := TX1) (N := 13) hx hb hts inG_X1 hown hK hP 0 rfl rfl 12 (by decide) (hts _ fl_X1_58) (fun _ h9 => h9) rfl dX1_isTaken_9 ?_
                refine lv_iload_n hx hb dX1_isTaken_12 rfl (lv_at hl 0 rfl) ?_
                refine va_lald hx hb hK hP 1 1 rfl rfl (i := 3) (by unfold vp_in; decide) dX1_isTaken_13 ?_
                refine g5_tl (v := 0) rfl ?_
                refine lv_iload_n hx hb dX1_isTaken_14 rfl (lv_at hl 2 rfl) ?_
                have hPc := hP.sub (ws' := []) [] rfl
                have hDc := hD.sub (ws' := []) [] (by decide) rfl
                have hFc := va_free (wc := []) hD hS hA [] rfl
                refine va_calli (va_runSN (As := [.long 0, .int n0]) (rest := []) ⟨hx, hb, hml, hown, hts⟩ (kX11_isOn_5 l G H.size n0 ⟨by omega, by omega⟩) ⟨va_cnB 2 hts gW_X11_isOn rfl rfl rfl (hN.1 _ g5_nw_X1_62) (hts _ ini_X11) hs_X11_isOn ⟨Nat.le_of_ble_eq_true rfl, Nat.le_of_ble_eq_true rfl⟩, hts _ st_X11_isOn, trivial⟩ (g5_preS hPc hK hDc hN hT hS hFc) rfl rfl hl.1 rfl (lv_room (Nat.le_of_ble_eq_true rfl)) dX1_isTaken_15 ⟨Nat.le_of_ble_eq_true rfl, Nat.le_of_ble_eq_true rfl⟩) hS (fun q _ h => hFc q h) hFc (fun r u t H1 locs ht hvm hw hB hz1 hk1 hS => ?_)
                obtain ⟨hP1, hD1⟩ := hB
                rw [ht] at hP1
                obtain ⟨rfl, rfl⟩ := hw
                have hP := g5_same hP hk1
                generalize H1 = H at hP hS ⊢
                refine lv_if_eq (tgt := 23) hx hb dX1_isTaken_18 (by decide) (fun c_8 => ?_) (fun c_8 => ?_)
                ·
                  refine lv_iinc (v := 4) (lv' := [(2, .int 4), (0, .ref a0), (1, .int n0)]) hx hb dX1_isTaken_23 hl (k := 0) rfl (by decide) (by decide) rfl (fun ls hl => ?_)
                  refine lv_goto (tgt := 2) hx hb dX1_isTaken_26 (by decide) ?_
                  refine lv_iload_n hx hb dX1_isTaken_2 rfl (lv_at hl 0 rfl) ?_
                  refine lv_bipush (v := 24) hx hb dX1_isTaken_3 (by decide) ?_
                  refine lv_icmp_ge (tgt := 29) hx hb dX1_isTaken_5 (by decide) (fun c_9 => ?_) (fun c_9 => ?_)
                  ·
                    exact absurd c_9 (by decide)
                  ·
                    refine lv_aload_n hx hb dX1_isTaken_8 rfl (lv_at hl 1 rfl) ?_
                    refine va_get (D := G.1) (ci := 1) (v := .ref a7) (C := RX1) (T := TX1) (N := 13) hx hb hts inG_X1 hown hK hP 0 rfl rfl 12 (by decide) (hts _ fl_X1_58) (fun _ h9 => h9) rfl dX1_isTaken_9 ?_
                    refine lv_iload_n hx hb dX1_isTaken_12 rfl (lv_at hl 0 rfl) ?_
                    refine va_lald hx hb hK hP 1 1 rfl rfl (i := 4) (by unfold vp_in; decide) dX1_isTaken_13 ?_
                    refine g5_tl (v := 0) rfl ?_
                    refine lv_iload_n hx hb dX1_isTaken_14 rfl (lv_at hl 2 rfl) ?_
                    have hPc := hP.sub (ws' := []) [] rfl
                    have hDc := hD.sub (ws' := []) [] (by decide) rfl
                    have hFc := va_free (wc := []) hD hS hA [] rfl
                    refine va_calli (va_runSN (As := [.long 0, .int n0]) (rest := []) ⟨hx, hb, hml, hown, hts⟩ (kX11_isOn_5 l G H.size n0 ⟨by omega, by omega⟩) ⟨va_cnB 2 hts gW_X11_isOn rfl rfl rfl (hN.1 _ g5_nw_X1_62) (hts _ ini_X11) hs_X11_isOn ⟨Nat.le_of_ble_eq_true rfl, Nat.le_of_ble_eq_true rfl⟩, hts _ st_X11_isOn, trivial⟩ (g5_preS hPc hK hDc hN hT hS hFc) rfl rfl hl.1 rfl (lv_room (Nat.le_of_ble_eq_true rfl)) dX1_isTaken_15 ⟨Nat.le_of_ble_eq_true rfl, Nat.le_of_ble_eq_true rfl⟩) hS (fun q _ h => hFc q h) hFc (fun r u t H1 locs ht hvm hw hB hz1 hk1 hS => ?_)
                    obtain ⟨hP1, hD1⟩ := hB
                    rw [ht] at hP1
                    obtain ⟨rfl, rfl⟩ := hw
                    have hP := g5_same hP hk1
                    generalize H1 = H at hP hS ⊢
                    refine lv_if_eq (tgt := 23) hx hb dX1_isTaken_18 (by decide) (fun c_10 => ?_) (fun c_10 => ?_)
                    ·
                      refine lv_iinc (v := 5) (lv' := [(2, .int 5), (0, .ref a0), (1, .int n0)]) hx hb dX1_isTaken_23 hl (k := 0) rfl (by decide) (by decide) rfl (fun ls hl => ?_)
                      refine lv_goto (tgt := 2) hx hb dX1_isTaken_26 (by decide) ?_
                      refine lv_iload_n hx hb dX1_isTaken_2 rfl (lv_at hl 0 rfl) ?_
                      refine lv_bipush (v := 24) hx hb dX1_isTaken_3 (by decide) ?_
                      refine lv_icmp_ge (tgt := 29) hx hb dX1_isTaken_5 (by decide) (fun c_11 => ?_) (fun c_11 => ?_)
                      ·
                        exact absurd c_11 (by decide)
                      ·
                        refine lv_aload_n hx hb dX1_isTaken_8 rfl (lv_at hl 1 rfl) ?_
                        refine va_get (D := G.1) (ci := 1) (v := .ref a7) (C := RX1) (T := TX1) (N := 13) hx hb hts inG_X1 hown hK hP 0 rfl rfl 12 (by decide) (hts _ fl_X1_58) (fun _ h9 => h9) rfl dX1_isTaken_9 ?_
                        refine lv_iload_n hx hb dX1_isTaken_12 rfl (lv_at hl 0 rfl) ?_
                        refine va_lald hx hb hK hP 1 1 rfl rfl (i := 5) (by unfold vp_in; decide) dX1_isTaken_13 ?_
                        refine g5_tl (v := 0) rfl ?_
                        refine lv_iload_n hx hb dX1_isTaken_14 rfl (lv_at hl 2 rfl) ?_
                        have hPc := hP.sub (ws' := []) [] rfl
                        have hDc := hD.sub (ws' := []) [] (by decide) rfl
                        have hFc := va_free (wc := []) hD hS hA [] rfl
                        refine va_calli (va_runSN (As := [.long 0, .int n0]) (rest := []) ⟨hx, hb, hml, hown, hts⟩ (kX11_isOn_5 l G H.size n0 ⟨by omega, by omega⟩) ⟨va_cnB 2 hts gW_X11_isOn rfl rfl rfl (hN.1 _ g5_nw_X1_62) (hts _ ini_X11) hs_X11_isOn ⟨Nat.le_of_ble_eq_true rfl, Nat.le_of_ble_eq_true rfl⟩, hts _ st_X11_isOn, trivial⟩ (g5_preS hPc hK hDc hN hT hS hFc) rfl rfl hl.1 rfl (lv_room (Nat.le_of_ble_eq_true rfl)) dX1_isTaken_15 ⟨Nat.le_of_ble_eq_true rfl, Nat.le_of_ble_eq_true rfl⟩) hS (fun q _ h => hFc q h) hFc (fun r u t H1 locs ht hvm hw hB hz1 hk1 hS => ?_)
                        obtain ⟨hP1, hD1⟩ := hB
                        rw [ht] at hP1
                        obtain ⟨rfl, rfl⟩ := hw
                        have hP := g5_same hP hk1
                        generalize H1 = H at hP hS ⊢
                        refine lv_if_eq (tgt := 23) hx hb dX1_isTaken_18 (by decide) (fun c_12 => ?_) (fun c_12 => ?_)
                        ·
                          refine lv_iinc (v := 6) (lv' := [(2, .int 6), (0, .ref a0), (1, .int n0)]) hx hb dX1_isTaken_23 hl (k := 0) rfl (by decide) (by decide) rfl (fun ls hl => ?_)
                          refine lv_goto (tgt := 2) hx hb dX1_isTaken_26 (by decide) ?_
                          refine lv_iload_n hx hb dX1_isTaken_2 rfl (lv_at hl 0 rfl) ?_
                          refine lv_bipush (v := 24) hx hb dX1_isTaken_3 (by decide) ?_
                          refine lv_icmp_ge (tgt := 29) hx hb dX1_isTaken_5 (by decide) (fun c_13 => ?_) (fun c_13 => ?_)
                          ·
                            exact absurd c_13 (by decide)
                          ·
                            refine lv_aload_n hx hb dX1_isTaken_8 rfl (lv_at hl 1 rfl) ?_
                            refine va_get (D := G.1) (ci := 1) (v := .ref a7) (C := RX1) (T := TX1) (N := 13) hx hb hts inG_X1 hown hK hP 0 rfl rfl 12 (by decide) (hts _ fl_X1_58) (fun _ h9 => h9) rfl dX1_isTaken_9 ?_
                            refine lv_iload_n hx hb dX1_isTaken_12 rfl (lv_at hl 0 rfl) ?_
                            refine va_lald hx hb hK hP 1 1 rfl rfl (i := 6) (by unfold vp_in; decide) dX1_isTaken_13 ?_
                            refine g5_tl (v := 0) rfl ?_
                            refine lv_iload_n hx hb dX1_isTaken_14 rfl (lv_at hl 2 rfl) ?_
                            have hPc := hP.sub (ws' := []) [] rfl
                            have hDc := hD.sub (ws' := []) [] (by decide) rfl
                            have hFc := va_free (wc := []) hD hS hA [] rfl
                            refine va_calli (va_runSN (As := [.long 0, .int n0]) (rest := []) ⟨hx, hb, hml, hown, hts⟩ (kX11_isOn_5 l G H.size n0 ⟨by omega, by omega⟩) ⟨va_cnB 2 hts gW_X11_isOn rfl rfl rfl (hN.1 _ g5_nw_X1_62) (hts _ ini_X11) hs_X11_isOn ⟨Nat.le_of_ble_eq_true rfl, Nat.le_of_ble_eq_true rfl⟩, hts _ st_X11_isOn, trivial⟩ (g5_preS hPc hK hDc hN hT hS hFc) rfl rfl hl.1 rfl (lv_room (Nat.le_of_ble_eq_true rfl)) dX1_isTaken_15 ⟨Nat.le_of_ble_eq_true rfl, Nat.le_of_ble_eq_true rfl⟩) hS (fun q _ h => hFc q h) hFc (fun r u t H1 locs ht hvm hw hB hz1 hk1 hS => ?_)
                            obtain ⟨hP1, hD1⟩ := hB
                            rw [ht] at hP1
                            obtain ⟨rfl, rfl⟩ := hw
                            have hP := g5_same hP hk1
                            generalize H1 = H at hP hS ⊢
                            refine lv_if_eq (tgt := 23) hx hb dX1_isTaken_18 (by decide) (fun c_14 => ?_) (fun c_14 => ?_)
                            ·
                              refine lv_iinc (v := 7) (lv' := [(2, .int 7), (0, .ref a0), (1, .int n0)]) hx hb dX1_isTaken_23 hl (k := 0) rfl (by decide) (by decide) rfl (fun ls hl => ?_)
                              refine lv_goto (tgt := 2) hx hb dX1_isTaken_26 (by decide) ?_
                              refine lv_iload_n hx hb dX1_isTaken_2 rfl (lv_at hl 0 rfl) ?_
                              refine lv_bipush (v := 24) hx hb dX1_isTaken_3 (by decide) ?_
                              refine lv_icmp_ge (tgt := 29) hx hb dX1_isTaken_5 (by decide) (fun c_15 => ?_) (fun c_15 => ?_)
                              ·
                                exact absurd c_15 (by decide)
                              ·
                                refine lv_aload_n hx hb dX1_isTaken_8 rfl (lv_at hl 1 rfl) ?_
                                refine va_get (D := G.1) (ci := 1) (v := .ref a7) (C := RX1) (T := TX1) (N := 13) hx hb hts inG_X1 hown hK hP 0 rfl rfl 12 (by decide) (hts _ fl_X1_58) (fun _ h9 => h9) rfl dX1_isTaken_9 ?_
                                refine lv_iload_n hx hb dX1_isTaken_12 rfl (lv_at hl 0 rfl) ?_
                                refine va_lald hx hb hK hP 1 1 rfl rfl (i := 7) (by unfold vp_in; decide) dX1_isTaken_13 ?_
                                refine g5_tl (v := 0) rfl ?_
                                refine lv_iload_n hx hb dX1_isTaken_14 rfl (lv_at hl 2 rfl) ?_
                                have hPc := hP.sub (ws' := []) [] rfl
                                have hDc := hD.sub (ws' := []) [] (by decide) rfl
                                have hFc := va_free (wc := []) hD hS hA [] rfl
                                refine va_calli (va_runSN (As := [.long 0, .int n0]) (rest := []) ⟨hx, hb, hml, hown, hts⟩ (kX11_isOn_5 l G H.size n0 ⟨by omega, by omega⟩) ⟨va_cnB 2 hts gW_X11_isOn rfl rfl rfl (hN.1 _ g5_nw_X1_62) (hts _ ini_X11) hs_X11_isOn ⟨Nat.le_of_ble_eq_true rfl, Nat.le_of_ble_eq_true rfl⟩, hts _ st_X11_isOn, trivial⟩ (g5_preS hPc hK hDc hN hT hS hFc) rfl rfl hl.1 rfl (lv_room (Nat.le_of_ble_eq_true rfl)) dX1_isTaken_15 ⟨Nat.le_of_ble_eq_true rfl, Nat.le_of_ble_eq_true rfl⟩) hS (fun q _ h => hFc q h) hFc (fun r u t H1 locs ht hvm hw hB hz1 hk1 hS => ?_)
                                obtain ⟨hP1, hD1⟩ := hB
                                rw [ht] at hP1
                                obtain ⟨rfl, rfl⟩ := hw
                                have hP := g5_same hP hk1
                                generalize H1 = H at hP hS ⊢
                                refine lv_if_eq (tgt := 23) hx hb dX1_isTaken_18 (by decide) (fun c_16 => ?_) (fun c_16 => ?_)
                                ·
                                  refine lv_iinc (v := 8) (lv' := [(2, .int 8), (0, .ref a0), (1, .int n0)]) hx hb dX1_isTaken_23 hl (k := 0) rfl (by decide) (by decide) rfl (fun ls hl => ?_)
                                  refine lv_goto (tgt := 2) hx hb dX1_isTaken_26 (by decide) ?_
                                  refine lv_iload_n hx hb dX1_isTaken_2 rfl (lv_at hl 0 rfl) ?_
                                  refine lv_bipush (v := 24) hx hb dX1_isTaken_3 (by decide) ?_
                                  refine lv_icmp_ge (tgt := 29) hx hb dX1_isTaken_5 (by decide) (fun c_17 => ?_) (fun c_17 => ?_)
                                  ·
                                    exact absurd c_17 (by decide)
                                  ·
                                    refine lv_aload_n hx hb dX1_isTaken_8 rfl (lv_at hl 1 rfl) ?_
                                    refine va_get (D := G.1) (ci := 1) (v := .ref a7) (C := RX1) (T := TX1) (N := 13) hx hb hts inG_X1 hown hK hP 0 rfl rfl 12 (by decide) (hts _ fl_X1_58) (fun _ h9 => h9) rfl dX1_isTaken_9 ?_
                                    refine lv_iload_n hx hb dX1_isTaken_12 rfl (lv_at hl 0 rfl) ?_
                                    refine va_lald hx hb hK hP 1 1 rfl rfl (i := 8) (by unfold vp_in; decide) dX1_isTaken_13 ?_
                                    refine g5_tl (v := 0) rfl ?_
                                    refine lv_iload_n hx hb dX1_isTaken_14 rfl (lv_at hl 2 rfl) ?_
                                    have hPc := hP.sub (ws' := []) [] rfl
                                    have hDc := hD.sub (ws' := []) [] (by decide) rfl
                                    have hFc := va_free (wc := []) hD hS hA [] rfl
                                    refine va_calli (va_runSN (As := [.long 0, .int n0]) (rest := []) ⟨hx, hb, hml, hown, hts⟩ (kX11_isOn_5 l G H.size n0 ⟨by omega, by omega⟩) ⟨va_cnB 2 hts gW_X11_isOn rfl rfl rfl (hN.1 _ g5_nw_X1_62) (hts _ ini_X11) hs_X11_isOn ⟨Nat.le_of_ble_eq_true rfl, Nat.le_of_ble_eq_true rfl⟩, hts _ st_X11_isOn, trivial⟩ (g5_preS hPc hK hDc hN hT hS hFc) rfl rfl hl.1 rfl (lv_room (Nat.le_of_ble_eq_true rfl)) dX1_isTaken_15 ⟨Nat.le_of_ble_eq_true rfl, Nat.le_of_ble_eq_true rfl⟩) hS (fun q _ h => hFc q h) hFc (fun r u t H1 locs ht hvm hw hB hz1 hk1 hS => ?_)
                                    obtain ⟨hP1, hD1⟩ := hB
                                    rw [ht] at hP1
                                    obtain ⟨rfl, rfl⟩ := hw
                                    have hP := g5_same hP hk1
                                    generalize H1 = H at hP hS ⊢
                                    refine lv_if_eq (tgt := 23) hx hb dX1_isTaken_18 (by decide) (fun c_18 => ?_) (fun c_18 => ?_)
                                    ·
                                      refine lv_iinc (v := 9) (lv' := [(2, .int 9), (0, .ref a0), (1, .int n0)]) hx hb dX1_isTaken_23 hl (k := 0) rfl (by decide) (by decide) rfl (fun ls hl => ?_)
                                      refine lv_goto (tgt := 2) hx hb dX1_isTaken_26 (by decide) ?_
                                      refine lv_iload_n hx hb dX1_isTaken_2 rfl (lv_at hl 0 rfl) ?_
                                      refine lv_bipush (v := 24) hx hb dX1_isTaken_3 (by decide) ?_
                                      refine lv_icmp_ge (tgt := 29) hx hb dX1_isTaken_5 (by decide) (fun c_19 => ?_) (fun c_19 => ?_)
                                      ·
                                        exact absurd c_19 (by decide)
                                      ·
                                        refine lv_aload_n hx hb dX1_isTaken_8 rfl (lv_at hl 1 rfl) ?_
                                        refine va_get (D := G.1) (ci := 1) (v := .ref a7) (C := RX1) (T := TX1) (N := 13) hx hb hts inG_X1 hown hK hP 0 rfl rfl 12 (by decide) (hts _ fl_X1_58) (fun _ h9 => h9) rfl dX1_isTaken_9 ?_
                                        refine lv_iload_n hx hb dX1_isTaken_12 rfl (lv_at hl 0 rfl) ?_
                                        refine va_lald hx hb hK hP 1 1 rfl rfl (i := 9) (by unfold vp_in; decide) dX1_isTaken_13 ?_
                                        refine g5_tl (v := 0) rfl ?_
                                        refine lv_iload_n hx hb dX1_isTaken_14 rfl (lv_at hl 2 rfl) ?_
                                        have hPc := hP.sub (ws' := []) [] rfl
                                        have hDc := hD.sub (ws' := []) [] (by decide) rfl
                                        have hFc := va_free (wc := []) hD hS hA [] rfl
                                        refine va_calli (va_runSN (As := [.long 0, .int n0]) (rest := []) ⟨hx, hb, hml, hown, hts⟩ (kX11_isOn_5 l G H.size n0 ⟨by omega, by omega⟩) ⟨va_cnB 2 hts gW_X11_isOn rfl rfl rfl (hN.1 _ g5_nw_X1_62) (hts _ ini_X11) hs_X11_isOn ⟨Nat.le_of_ble_eq_true rfl, Nat.le_of_ble_eq_true rfl⟩, hts _ st_X11_isOn, trivial⟩ (g5_preS hPc hK hDc hN hT hS hFc) rfl rfl hl.1 rfl (lv_room (Nat.le_of_ble_eq_true rfl)) dX1_isTaken_15 ⟨Nat.le_of_ble_eq_true rfl, Nat.le_of_ble_eq_true rfl⟩) hS (fun q _ h => hFc q h) hFc (fun r u t H1 locs ht hvm hw hB hz1 hk1 hS => ?_)
                                        obtain ⟨hP1, hD1⟩ := hB
                                        rw [ht] at hP1
                                        obtain ⟨rfl, rfl⟩ := hw
                                        have hP := g5_same hP hk1
                                        generalize H1 = H at hP hS ⊢
                                        refine lv_if_eq (tgt := 23) hx hb dX1_isTaken_18 (by decide) (fun c_20 => ?_) (fun c_20 => ?_)
                                        ·
                                          refine lv_iinc (v := 10) (lv' := [(2, .int 10), (0, .ref a0), (1, .int n0)]) hx hb dX1_isTaken_23 hl (k := 0) rfl (by decide) (by decide) rfl (fun ls hl => ?_)
                                          refine lv_goto (tgt := 2) hx hb dX1_isTaken_26 (by decide) ?_
                                          refine lv_iload_n hx hb dX1_isTaken_2 rfl (lv_at hl 0 rfl) ?_
                                          refine lv_bipush (v := 24) hx hb dX1_isTaken_3 (by decide) ?_
                                          refine lv_icmp_ge (tgt := 29) hx hb dX1_isTaken_5 (by decide) (fun c_21 => ?_) (fun c_21 => ?_)
                                          ·
                                            exact absurd c_21 (by decide)
                                          ·
                                            refine lv_aload_n hx hb dX1_isTaken_8 rfl (lv_at hl 1 rfl) ?_
                                            refine va_get (D := G.1) (ci := 1) (v := .ref a7) (C := RX1) (T := TX1) (N := 13) hx hb hts inG_X1 hown hK hP 0 rfl rfl 12 (by decide) (hts _ fl_X1_58) (fun _ h9 => h9) rfl dX1_isTaken_9 ?_
                                            refine lv_iload_n hx hb dX1_isTaken_12 rfl (lv_at hl 0 rfl) ?_
                                            refine va_lald hx hb hK hP 1 1 rfl rfl (i := 10) (by unfold vp_in; decide) dX1_isTaken_13 ?_
                                            refine g5_tl (v := 0) rfl ?_
                                            refine lv_iload_n hx hb dX1_isTaken_14 rfl (lv_at hl 2 rfl) ?_
                                            have hPc := hP.sub (ws' := []) [] rfl
                                            have hDc := hD.sub (ws' := []) [] (by decide) rfl
                                            have hFc := va_free (wc := []) hD hS hA [] rfl
                                            refine va_calli (va_runSN (As := [.long 0, .int n0]) (rest := []) ⟨hx, hb, hml, hown, hts⟩ (kX11_isOn_5 l G H.size n0 ⟨by omega, by omega⟩) ⟨va_cnB 2 hts gW_X11_isOn rfl rfl rfl (hN.1 _ g5_nw_X1_62) (hts _ ini_X11) hs_X11_isOn ⟨Nat.le_of_ble_eq_true rfl, Nat.le_of_ble_eq_true rfl⟩, hts _ st_X11_isOn, trivial⟩ (g5_preS hPc hK hDc hN hT hS hFc) rfl rfl hl.1 rfl (lv_room (Nat.le_of_ble_eq_true rfl)) dX1_isTaken_15 ⟨Nat.le_of_ble_eq_true rfl, Nat.le_of_ble_eq_true rfl⟩) hS (fun q _ h => hFc q h) hFc (fun r u t H1 locs ht hvm hw hB hz1 hk1 hS => ?_)
                                            obtain ⟨hP1, hD1⟩ := hB
                                            rw [ht] at hP1
                                            obtain ⟨rfl, rfl⟩ := hw
                                            have hP := g5_same hP hk1
                                            generalize H1 = H at hP hS ⊢
                                            refine lv_if_eq (tgt := 23) hx hb dX1_isTaken_18 (by decide) (fun c_22 => ?_) (fun c_22 => ?_)
                                            ·
                                              refine lv_iinc (v := 11) (lv' := [(2, .int 11), (0, .ref a0), (1, .int n0)]) hx hb dX1_isTaken_23 hl (k := 0) rfl (by decide) (by decide) rfl (fun ls hl => ?_)
                                              refine lv_goto (tgt := 2) hx hb dX1_isTaken_26 (by decide) ?_
                                              refine lv_iload_n hx hb dX1_isTaken_2 rfl (lv_at hl 0 rfl) ?_
                                              refine lv_bipush (v := 24) hx hb dX1_isTaken_3 (by decide) ?_
                                              refine lv_icmp_ge (tgt := 29) hx hb dX1_isTaken_5 (by decide) (fun c_23 => ?_) (fun c_23 => ?_)
                                              ·
                                                exact absurd c_23 (by decide)
                                              ·
                                                refine lv_aload_n hx hb dX1_isTaken_8 rfl (lv_at hl 1 rfl) ?_
                                                refine va_get (D := G.1) (ci := 1) (v := .ref a7) (C := RX1) (T := TX1) (N := 13) hx hb hts inG_X1 hown hK hP 0 rfl rfl 12 (by decide) (hts _ fl_X1_58) (fun _ h9 => h9) rfl dX1_isTaken_9 ?_
                                                refine lv_iload_n hx hb dX1_isTaken_12 rfl (lv_at hl 0 rfl) ?_
                                                refine va_lald hx hb hK hP 1 1 rfl rfl (i := 11) (by unfold vp_in; decide) dX1_isTaken_13 ?_
                                                refine g5_tl (v := 0) rfl ?_
                                                refine lv_iload_n hx hb dX1_isTaken_14 rfl (lv_at hl 2 rfl) ?_
                                                have hPc := hP.sub (ws' := []) [] rfl
                                                have hDc := hD.sub (ws' := []) [] (by decide) rfl
                                                have hFc := va_free (wc := []) hD hS hA [] rfl
                                                refine va_calli (va_runSN (As := [.long 0, .int n0]) (rest := []) ⟨hx, hb, hml, hown, hts⟩ (kX11_isOn_5 l G H.size n0 ⟨by omega, by omega⟩) ⟨va_cnB 2 hts gW_X11_isOn rfl rfl rfl (hN.1 _ g5_nw_X1_62) (hts _ ini_X11) hs_X11_isOn ⟨Nat.le_of_ble_eq_true rfl, Nat.le_of_ble_eq_true rfl⟩, hts _ st_X11_isOn, trivial⟩ (g5_preS hPc hK hDc hN hT hS hFc) rfl rfl hl.1 rfl (lv_room (Nat.le_of_ble_eq_true rfl)) dX1_isTaken_15 ⟨Nat.le_of_ble_eq_true rfl, Nat.le_of_ble_eq_true rfl⟩) hS (fun q _ h => hFc q h) hFc (fun r u t H1 locs ht hvm hw hB hz1 hk1 hS => ?_)
                                                obtain ⟨hP1, hD1⟩ := hB
                                                rw [ht] at hP1
                                                obtain ⟨rfl, rfl⟩ := hw
                                                have hP := g5_same hP hk1
                                                generalize H1 = H at hP hS ⊢
                                                refine lv_if_eq (tgt := 23) hx hb dX1_isTaken_18 (by decide) (fun c_24 => ?_) (fun c_24 => ?_)
                                                ·
                                                  refine lv_iinc (v := 12) (lv' := [(2, .int 12), (0, .ref a0), (1, .int n0)]) hx hb dX1_isTaken_23 hl (k := 0) rfl (by decide) (by decide) rfl (fun ls hl => ?_)
                                                  refine lv_goto (tgt := 2) hx hb dX1_isTaken_26 (by decide) ?_
                                                  refine lv_iload_n hx hb dX1_isTaken_2 rfl (lv_at hl 0 rfl) ?_
                                                  refine lv_bipush (v := 24) hx hb dX1_isTaken_3 (by decide) ?_
                                                  refine lv_icmp_ge (tgt := 29) hx hb dX1_isTaken_5 (by decide) (fun c_25 => ?_) (fun c_25 => ?_)
                                                  ·
                                                    exact absurd c_25 (by decide)
                                                  ·
                                                    refine lv_aload_n hx hb dX1_isTaken_8 rfl (lv_at hl 1 rfl) ?_
                                                    refine va_get (D := G.1) (ci := 1) (v := .ref a7) (C := RX1) (T := TX1) (N := 13) hx hb hts inG_X1 hown hK hP 0 rfl rfl 12 (by decide) (hts _ fl_X1_58) (fun _ h9 => h9) rfl dX1_isTaken_9 ?_
                                                    refine lv_iload_n hx hb dX1_isTaken_12 rfl (lv_at hl 0 rfl) ?_
                                                    refine va_lald hx hb hK hP 1 1 rfl rfl (i := 12) (by unfold vp_in; decide) dX1_isTaken_13 ?_
                                                    refine g5_tl (v := 0) rfl ?_
                                                    refine lv_iload_n hx hb dX1_isTaken_14 rfl (lv_at hl 2 rfl) ?_
                                                    have hPc := hP.sub (ws' := []) [] rfl
                                                    have hDc := hD.sub (ws' := []) [] (by decide) rfl
                                                    have hFc := va_free (wc := []) hD hS hA [] rfl
                                                    refine va_calli (va_runSN (As := [.long 0, .int n0]) (rest := []) ⟨hx, hb, hml, hown, hts⟩ (kX11_isOn_5 l G H.size n0 ⟨by omega, by omega⟩) ⟨va_cnB 2 hts gW_X11_isOn rfl rfl rfl (hN.1 _ g5_nw_X1_62) (hts _ ini_X11) hs_X11_isOn ⟨Nat.le_of_ble_eq_true rfl, Nat.le_of_ble_eq_true rfl⟩, hts _ st_X11_isOn, trivial⟩ (g5_preS hPc hK hDc hN hT hS hFc) rfl rfl hl.1 rfl (lv_room (Nat.le_of_ble_eq_true rfl)) dX1_isTaken_15 ⟨Nat.le_of_ble_eq_true rfl, Nat.le_of_ble_eq_true rfl⟩) hS (fun q _ h => hFc q h) hFc (fun r u t H1 locs ht hvm hw hB hz1 hk1 hS => ?_)
                                                    obtain ⟨hP1, hD1⟩ := hB
                                                    rw [ht] at hP1
                                                    obtain ⟨rfl, rfl⟩ := hw
                                                    have hP := g5_same hP hk1
                                                    generalize H1 = H at hP hS ⊢
                                                    refine lv_if_eq (tgt := 23) hx hb dX1_isTaken_18 (by decide) (fun c_26 => ?_) (fun c_26 => ?_)
                                                    ·
                                                      refine lv_iinc (v := 13) (lv' := [(2, .int 13), (0, .ref a0), (1, .int n0)]) hx hb dX1_isTaken_23 hl (k := 0) rfl (by decide) (by decide) rfl (fun ls hl => ?_)
                                                      refine lv_goto (tgt := 2) hx hb dX1_isTaken_26 (by decide) ?_
                                                      refine lv_iload_n hx hb dX1_isTaken_2 rfl (lv_at hl 0 rfl) ?_
                                                      refine lv_bipush (v := 24) hx hb dX1_isTaken_3 (by decide) ?_
                                                      refine lv_icmp_ge (tgt := 29) hx hb dX1_isTaken_5 (by decide) (fun c_27 => ?_) (fun c_27 => ?_)
                                                      ·
                                                        exact absurd c_27 (by decide)
                                                      ·
                                                        refine lv_aload_n hx hb dX1_isTaken_8 rfl (lv_at hl 1 rfl) ?_
                                                        refine va_get (D := G.1) (ci := 1) (v := .ref a7) (C := RX1) (T := TX1) (N := 13) hx hb hts inG_X1 hown hK hP 0 rfl rfl 12 (by decide) (hts _ fl_X1_58) (fun _ h9 => h9) rfl dX1_isTaken_9 ?_
                                                        refine lv_iload_n hx hb dX1_isTaken_12 rfl (lv_at hl 0 rfl) ?_
                                                        refine va_lald hx hb hK hP 1 1 rfl rfl (i := 13) (by unfold vp_in; decide) dX1_isTaken_13 ?_
                                                        refine g5_tl (v := 0) rfl ?_
                                                        refine lv_iload_n hx hb dX1_isTaken_14 rfl (lv_at hl 2 rfl) ?_
                                                        have hPc := hP.sub (ws' := []) [] rfl
                                                        have hDc := hD.sub (ws' := []) [] (by decide) rfl
                                                        have hFc := va_free (wc := []) hD hS hA [] rfl
                                                        refine va_calli (va_runSN (As := [.long 0, .int n0]) (rest := []) ⟨hx, hb, hml, hown, hts⟩ (kX11_isOn_5 l G H.size n0 ⟨by omega, by omega⟩) ⟨va_cnB 2 hts gW_X11_isOn rfl rfl rfl (hN.1 _ g5_nw_X1_62) (hts _ ini_X11) hs_X11_isOn ⟨Nat.le_of_ble_eq_true rfl, Nat.le_of_ble_eq_true rfl⟩, hts _ st_X11_isOn, trivial⟩ (g5_preS hPc hK hDc hN hT hS hFc) rfl rfl hl.1 rfl (lv_room (Nat.le_of_ble_eq_true rfl)) dX1_isTaken_15 ⟨Nat.le_of_ble_eq_true rfl, Nat.le_of_ble_eq_true rfl⟩) hS (fun q _ h => hFc q h) hFc (fun r u t H1 locs ht hvm hw hB hz1 hk1 hS => ?_)
                                                        obtain ⟨hP1, hD1⟩ := hB
                                                        rw [ht] at hP1
                                                        obtain ⟨rfl, rfl⟩ := hw
                                                        have hP := g5_same hP hk1
                                                        generalize H1 = H at hP hS ⊢
                                                        refine lv_if_eq (tgt := 23) hx hb dX1_isTaken_18 (by decide) (fun c_28 => ?_) (fun c_28 => ?_)
                                                        ·
                                                          refine lv_iinc (v := 14) (lv' := [(2, .int 14), (0, .ref a0), (1, .int n0)]) hx hb dX1_isTaken_23 hl (k := 0) rfl (by decide) (by decide) rfl (fun ls hl => ?_)
                                                          refine lv_goto (tgt := 2) hx hb dX1_isTaken_26 (by decide) ?_
                                                          refine lv_iload_n hx hb dX1_isTaken_2 rfl (lv_at hl 0 rfl) ?_
                                                          refine lv_bipush (v := 24) hx hb dX1_isTaken_3 (by decide) ?_
                                                          refine lv_icmp_ge (tgt := 29) hx hb dX1_isTaken_5 (by decide) (fun c_29 => ?_) (fun c_29 => ?_)
                                                          ·
                                                            exact absurd c_29 (by decide)
                                                          ·
                                                            refine lv_aload_n hx hb dX1_isTaken_8 rfl (lv_at hl 1 rfl) ?_
                                                            refine va_get (D := G.1) (ci := 1) (v := .ref a7) (C := RX1) (T := TX1) (N := 13) hx hb hts inG_X1 hown hK hP 0 rfl rfl 12 (by decide) (hts _ fl_X1_58) (fun _ h9 => h9) rfl dX1_isTaken_9 ?_
                                                            refine lv_iload_n hx hb dX1_isTaken_12 rfl (lv_at hl 0 rfl) ?_
                                                            refine va_lald hx hb hK hP 1 1 rfl rfl (i := 14) (by unfold vp_in; decide) dX1_isTaken_13 ?_
                                                            refine g5_tl (v := 0) rfl ?_
                                                            refine lv_iload_n hx hb dX1_isTaken_14 rfl (lv_at hl 2 rfl) ?_
                                                            have hPc := hP.sub (ws' := []) [] rfl
                                                            have hDc := hD.sub (ws' := []) [] (by decide) rfl
                                                            have hFc := va_free (wc := []) hD hS hA [] rfl
                                                            refine va_calli (va_runSN (As := [.long 0, .int n0]) (rest := []) ⟨hx, hb, hml, hown, hts⟩ (kX11_isOn_5 l G H.size n0 ⟨by omega, by omega⟩) ⟨va_cnB 2 hts gW_X11_isOn rfl rfl rfl (hN.1 _ g5_nw_X1_62) (hts _ ini_X11) hs_X11_isOn ⟨Nat.le_of_ble_eq_true rfl, Nat.le_of_ble_eq_true rfl⟩, hts _ st_X11_isOn, trivial⟩ (g5_preS hPc hK hDc hN hT hS hFc) rfl rfl hl.1 rfl (lv_room (Nat.le_of_ble_eq_true rfl)) dX1_isTaken_15 ⟨Nat.le_of_ble_eq_true rfl, Nat.le_of_ble_eq_true rfl⟩) hS (fun q _ h => hFc q h) hFc (fun r u t H1 locs ht hvm hw hB hz1 hk1 hS => ?_)
                                                            obtain ⟨hP1, hD1⟩ := hB
                                                            rw [ht] at hP1
                                                            obtain ⟨rfl, rfl⟩ := hw
                                                            have hP := g5_same hP hk1
                                                            generalize H1 = H at hP hS ⊢
                                                            refine lv_if_eq (tgt := 23) hx hb dX1_isTaken_18 (by decide) (fun c_30 => ?_) (fun c_30 => ?_)
                                                            ·
                                                              refine lv_iinc (v := 15) (lv' := [(2, .int 15), (0, .ref a0), (1, .int n0)]) hx hb dX1_isTaken_23 hl (k := 0) rfl (by decide) (by decide) rfl (fun ls hl => ?_)
                                                              refine lv_goto (tgt := 2) hx hb dX1_isTaken_26 (by decide) ?_
                                                              refine lv_iload_n hx hb dX1_isTaken_2 rfl (lv_at hl 0 rfl) ?_
                                                              refine lv_bipush (v := 24) hx hb dX1_isTaken_3 (by decide) ?_
                                                              refine lv_icmp_ge (tgt := 29) hx hb dX1_isTaken_5 (by decide) (fun c_31 => ?_) (fun c_31 => ?_)
                                                              ·
                                                                exact absurd c_31 (by decide)
                                                              ·
                                                                refine lv_aload_n hx hb dX1_isTaken_8 rfl (lv_at hl 1 rfl) ?_
                                                                refine va_get (D := G.1) (ci := 1) (v := .ref a7) (C := RX1) (T := TX1) (N := 13) hx hb hts inG_X1 hown hK hP 0 rfl rfl 12 (by decide) (hts _ fl_X1_58) (fun _ h9 => h9) rfl dX1_isTaken_9 ?_
                                                                refine lv_iload_n hx hb dX1_isTaken_12 rfl (lv_at hl 0 rfl) ?_
                                                                refine va_lald hx hb hK hP 1 1 rfl rfl (i := 15) (by unfold vp_in; decide) dX1_isTaken_13 ?_
                                                                refine g5_tl (v := 0) rfl ?_
                                                                refine lv_iload_n hx hb dX1_isTaken_14 rfl (lv_at hl 2 rfl) ?_
                                                                have hPc := hP.sub (ws' := []) [] rfl
                                                                have hDc := hD.sub (ws' := []) [] (by decide) rfl
                                                                have hFc := va_free (wc := []) hD hS hA [] rfl
                                                                refine va_calli (va_runSN (As := [.long 0, .int n0]) (rest := []) ⟨hx, hb, hml, hown, hts⟩ (kX11_isOn_5 l G H.size n0 ⟨by omega, by omega⟩) ⟨va_cnB 2 hts gW_X11_isOn rfl rfl rfl (hN.1 _ g5_nw_X1_62) (hts _ ini_X11) hs_X11_isOn ⟨Nat.le_of_ble_eq_true rfl, Nat.le_of_ble_eq_true rfl⟩, hts _ st_X11_isOn, trivial⟩ (g5_preS hPc hK hDc hN hT hS hFc) rfl rfl hl.1 rfl (lv_room (Nat.le_of_ble_eq_true rfl)) dX1_isTaken_15 ⟨Nat.le_of_ble_eq_true rfl, Nat.le_of_ble_eq_true rfl⟩) hS (fun q _ h => hFc q h) hFc (fun r u t H1 locs ht hvm hw hB hz1 hk1 hS => ?_)
                                                                obtain ⟨hP1, hD1⟩ := hB
                                                                rw [ht] at hP1
                                                                obtain ⟨rfl, rfl⟩ := hw
                                                                have hP := g5_same hP hk1
                                                                generalize H1 = H at hP hS ⊢
                                                                refine lv_if_eq (tgt := 23) hx hb dX1_isTaken_18 (by decide) (fun c_32 => ?_) (fun c_32 => ?_)
                                                                ·
                                                                  refine lv_iinc (v := 16) (lv' := [(2, .int 16), (0, .ref a0), (1, .int n0)]) hx hb dX1_isTaken_23 hl (k := 0) rfl (by decide) (by decide) rfl (fun ls hl => ?_)
                                                                  refine lv_goto (tgt := 2) hx hb dX1_isTaken_26 (by decide) ?_
                                                                  refine lv_iload_n hx hb dX1_isTaken_2 rfl (lv_at hl 0 rfl) ?_
                                                                  refine lv_bipush (v := 24) hx hb dX1_isTaken_3 (by decide) ?_
                                                                  refine lv_icmp_ge (tgt := 29) hx hb dX1_isTaken_5 (by decide) (fun c_33 => ?_) (fun c_33 => ?_)
                                                                  ·
                                                                    exact absurd c_33 (by decide)
                                                                  ·
                                                                    refine lv_aload_n hx hb dX1_isTaken_8 rfl (lv_at hl 1 rfl) ?_
                                                                    refine va_get (D := G.1) (ci := 1) (v := .ref a7) (C := RX1) (T := TX1) (N := 13) hx hb hts inG_X1 hown hK hP 0 rfl rfl 12 (by decide) (hts _ fl_X1_58) (fun _ h9 => h9) rfl dX1_isTaken_9 ?_
                                                                    refine lv_iload_n hx hb dX1_isTaken_12 rfl (lv_at hl 0 rfl) ?_
                                                                    refine va_lald hx hb hK hP 1 1 rfl rfl (i := 16) (by unfold vp_in; decide) dX1_isTaken_13 ?_
                                                                    refine g5_tl (v := 0) rfl ?_
                                                                    refine lv_iload_n hx hb dX1_isTaken_14 rfl (lv_at hl 2 rfl) ?_
                                                                    have hPc := hP.sub (ws' := []) [] rfl
                                                                    have hDc := hD.sub (ws' := []) [] (by decide) rfl
                                                                    have hFc := va_free (wc := []) hD hS hA [] rfl
                                                                    refine va_calli (va_runSN (As := [.long 0, .int n0]) (rest := []) ⟨hx, hb, hml, hown, hts⟩ (kX11_isOn_5 l G H.size n0 ⟨by omega, by omega⟩) ⟨va_cnB 2 hts gW_X11_isOn rfl rfl rfl (hN.1 _ g5_nw_X1_62) (hts _ ini_X11) hs_X11_isOn ⟨Nat.le_of_ble_eq_true rfl, Nat.le_of_ble_eq_true rfl⟩, hts _ st_X11_isOn, trivial⟩ (g5_preS hPc hK hDc hN hT hS hFc) rfl rfl hl.1 rfl (lv_room (Nat.le_of_ble_eq_true rfl)) dX1_isTaken_15 ⟨Nat.le_of_ble_eq_true rfl, Nat.le_of_ble_eq_true rfl⟩) hS (fun q _ h => hFc q h) hFc (fun r u t H1 locs ht hvm hw hB hz1 hk1 hS => ?_)
                                                                    obtain ⟨hP1, hD1⟩ := hB
                                                                    rw [ht] at hP1
                                                                    obtain ⟨rfl, rfl⟩ := hw
                                                                    have hP := g5_same hP hk1
                                                                    generalize H1 = H at hP hS ⊢
                                                                    refine lv_if_eq (tgt := 23) hx hb dX1_isTaken_18 (by decide) (fun c_34 => ?_) (fun c_34 => ?_)
                                                                    ·
                                                                      refine lv_iinc (v := 17) (lv' := [(2, .int 17), (0, .ref a0), (1, .int n0)]) hx hb dX1_isTaken_23 hl (k := 0) rfl (by decide) (by decide) rfl (fun ls hl => ?_)
                                                                      refine lv_goto (tgt := 2) hx hb dX1_isTaken_26 (by decide) ?_
                                                                      refine lv_iload_n hx hb dX1_isTaken_2 rfl (lv_at hl 0 rfl) ?_
                                                                      refine lv_bipush (v := 24) hx hb dX1_isTaken_3 (by decide) ?_
                                                                      refine lv_icmp_ge (tgt := 29) hx hb dX1_isTaken_5 (by decide) (fun c_35 => ?_) (fun c_35 => ?_)
                                                                      ·
                                                                        exact absurd c_35 (by decide)
                                                                      ·
                                                                        refine lv_aload_n hx hb dX1_isTaken_8 rfl (lv_at hl 1 rfl) ?_
                                                                        refine va_get (D := G.1) (ci := 1) (v := .ref a7) (C := RX1) (T := TX1) (N := 13) hx hb hts inG_X1 hown hK hP 0 rfl rfl 12 (by decide) (hts _ fl_X1_58) (fun _ h9 => h9) rfl dX1_isTaken_9 ?_
                                                                        refine lv_iload_n hx hb dX1_isTaken_12 rfl (lv_at hl 0 rfl) ?_
                                                                        refine va_lald hx hb hK hP 1 1 rfl rfl (i := 17) (by unfold vp_in; decide) dX1_isTaken_13 ?_
                                                                        refine g5_tl (v := 0) rfl ?_
                                                                        refine lv_iload_n hx hb dX1_isTaken_14 rfl (lv_at hl 2 rfl) ?_
                                                                        have hPc := hP.sub (ws' := []) [] rfl
                                                                        have hDc := hD.sub (ws' := []) [] (by decide) rfl
                                                                        have hFc := va_free (wc := []) hD hS hA [] rfl
                                                                        refine va_calli (va_runSN (As := [.long 0, .int n0]) (rest := []) ⟨hx, hb, hml, hown, hts⟩ (kX11_isOn_5 l G H.size n0 ⟨by omega, by omega⟩) ⟨va_cnB 2 hts gW_X11_isOn rfl rfl rfl (hN.1 _ g5_nw_X1_62) (hts _ ini_X11) hs_X11_isOn ⟨Nat.le_of_ble_eq_true rfl, Nat.le_of_ble_eq_true rfl⟩, hts _ st_X11_isOn, trivial⟩ (g5_preS hPc hK hDc hN hT hS hFc) rfl rfl hl.1 rfl (lv_room (Nat.le_of_ble_eq_true rfl)) dX1_isTaken_15 ⟨Nat.le_of_ble_eq_true rfl, Nat.le_of_ble_eq_true rfl⟩) hS (fun q _ h => hFc q h) hFc (fun r u t H1 locs ht hvm hw hB hz1 hk1 hS => ?_)
                                                                        obtain ⟨hP1, hD1⟩ := hB
                                                                        rw [ht] at hP1
                                                                        obtain ⟨rfl, rfl⟩ := hw
                                                                        have hP := g5_same hP hk1
                                                                        generalize H1 = H at hP hS ⊢
                                                                        refine lv_if_eq (tgt := 23) hx hb dX1_isTaken_18 (by decide) (fun c_36 => ?_) (fun c_36 => ?_)
                                                                        ·
                                                                          refine lv_iinc (v := 18) (lv' := [(2, .int 18), (0, .ref a0), (1, .int n0)]) hx hb dX1_isTaken_23 hl (k := 0) rfl (by decide) (by decide) rfl (fun ls hl => ?_)
                                                                          refine lv_goto (tgt := 2) hx hb dX1_isTaken_26 (by decide) ?_
                                                                          refine lv_iload_n hx hb dX1_isTaken_2 rfl (lv_at hl 0 rfl) ?_
                                                                          refine lv_bipush (v := 24) hx hb dX1_isTaken_3 (by decide) ?_
                                                                          refine lv_icmp_ge (tgt := 29) hx hb dX1_isTaken_5 (by decide) (fun c_37 => ?_) (fun c_37 => ?_)
                                                                          ·
                                                                            exact absurd c_37 (by decide)
                                                                          ·
                                                                            refine lv_aload_n hx hb dX1_isTaken_8 rfl (lv_at hl 1 rfl) ?_
                                                                            refine va_get (D := G.1) (ci := 1) (v := .ref a7) (C := RX1) (T := TX1) (N := 13) hx hb hts inG_X1 hown hK hP 0 rfl rfl 12 (by decide) (hts _ fl_X1_58) (fun _ h9 => h9) rfl dX1_isTaken_9 ?_
                                                                            refine lv_iload_n hx hb dX1_isTaken_12 rfl (lv_at hl 0 rfl) ?_
                                                                            refine va_lald hx hb hK hP 1 1 rfl rfl (i := 18) (by unfold vp_in; decide) dX1_isTaken_13 ?_
                                                                            refine g5_tl (v := 0) rfl ?_
                                                                            refine lv_iload_n hx hb dX1_isTaken_14 rfl (lv_at hl 2 rfl) ?_
                                                                            have hPc := hP.sub (ws' := []) [] rfl
                                                                            have hDc := hD.sub (ws' := []) [] (by decide) rfl
                                                                            have hFc := va_free (wc := []) hD hS hA [] rfl
                                                                            refine va_calli (va_runSN (As := [.long 0, .int n0]) (rest := []) ⟨hx, hb, hml, hown, hts⟩ (kX11_isOn_5 l G H.size n0 ⟨by omega, by omega⟩) ⟨va_cnB 2 hts gW_X11_isOn rfl rfl rfl (hN.1 _ g5_nw_X1_62) (hts _ ini_X11) hs_X11_isOn ⟨Nat.le_of_ble_eq_true rfl, Nat.le_of_ble_eq_true rfl⟩, hts _ st_X11_isOn, trivial⟩ (g5_preS hPc hK hDc hN hT hS hFc) rfl rfl hl.1 rfl (lv_room (Nat.le_of_ble_eq_true rfl)) dX1_isTaken_15 ⟨Nat.le_of_ble_eq_true rfl, Nat.le_of_ble_eq_true rfl⟩) hS (fun q _ h => hFc q h) hFc (fun r u t H1 locs ht hvm hw hB hz1 hk1 hS => ?_)
                                                                            obtain ⟨hP1, hD1⟩ := hB
                                                                            rw [ht] at hP1
                                                                            obtain ⟨rfl, rfl⟩ := hw
                                                                            have hP := g5_same hP hk1
                                                                            generalize H1 = H at hP hS ⊢
                                                                            refine lv_if_eq (tgt := 23) hx hb dX1_isTaken_18 (by decide) (fun c_38 => ?_) (fun c_38 => ?_)
                                                                            ·
                                                                              refine lv_iinc (v := 19) (lv' := [(2, .int 19), (0, .ref a0), (1, .int n0)]) hx hb dX1_isTaken_23 hl (k := 0) rfl (by decide) (by decide) rfl (fun ls hl => ?_)
                                                                              refine lv_goto (tgt := 2) hx hb dX1_isTaken_26 (by decide) ?_
                                                                              refine lv_iload_n hx hb dX1_isTaken_2 rfl (lv_at hl 0 rfl) ?_
                                                                              refine lv_bipush (v := 24) hx hb dX1_isTaken_3 (by decide) ?_
                                                                              refine lv_icmp_ge (tgt := 29) hx hb dX1_isTaken_5 (by decide) (fun c_39 => ?_) (fun c_39 => ?_)
                                                                              ·
                                                                                exact absurd c_39 (by decide)
                                                                              ·
                                                                                refine lv_aload_n hx hb dX1_isTaken_8 rfl (lv_at hl 1 rfl) ?_
                                                                                refine va_get (D := G.1) (ci := 1) (v := .ref a7) (C := RX1) (T := TX1) (N := 13) hx hb hts inG_X1 hown hK hP 0 rfl rfl 12 (by decide) (hts _ fl_X1_58) (fun _ h9 => h9) rfl dX1_isTaken_9 ?_
                                                                                refine lv_iload_n hx hb dX1_isTaken_12 rfl (lv_at hl 0 rfl) ?_
                                                                                refine va_lald hx hb hK hP 1 1 rfl rfl (i := 19) (by unfold vp_in; decide) dX1_isTaken_13 ?_
                                                                                refine g5_tl (v := 0) rfl ?_
                                                                                refine lv_iload_n hx hb dX1_isTaken_14 rfl (lv_at hl 2 rfl) ?_
                                                                                have hPc := hP.sub (ws' := []) [] rfl
                                                                                have hDc := hD.sub (ws' := []) [] (by decide) rfl
                                                                                have hFc := va_free (wc := []) hD hS hA [] rfl
                                                                                refine va_calli (va_runSN (As := [.long 0, .int n0]) (rest := []) ⟨hx, hb, hml, hown, hts⟩ (kX11_isOn_5 l G H.size n0 ⟨by omega, by omega⟩) ⟨va_cnB 2 hts gW_X11_isOn rfl rfl rfl (hN.1 _ g5_nw_X1_62) (hts _ ini_X11) hs_X11_isOn ⟨Nat.le_of_ble_eq_true rfl, Nat.le_of_ble_eq_true rfl⟩, hts _ st_X11_isOn, trivial⟩ (g5_preS hPc hK hDc hN hT hS hFc) rfl rfl hl.1 rfl (lv_room (Nat.le_of_ble_eq_true rfl)) dX1_isTaken_15 ⟨Nat.le_of_ble_eq_true rfl, Nat.le_of_ble_eq_true rfl⟩) hS (fun q _ h => hFc q h) hFc (fun r u t H1 locs ht hvm hw hB hz1 hk1 hS => ?_)
                                                                                obtain ⟨hP1, hD1⟩ := hB
                                                                                rw [ht] at hP1
                                                                                obtain ⟨rfl, rfl⟩ := hw
                                                                                have hP := g5_same hP hk1
                                                                                generalize H1 = H at hP hS ⊢
                                                                                refine lv_if_eq (tgt := 23) hx hb dX1_isTaken_18 (by decide) (fun c_40 => ?_) (fun c_40 => ?_)
                                                                                ·
                                                                                  refine lv_iinc (v := 20) (lv' := [(2, .int 20), (0, .ref a0), (1, .int n0)]) hx hb dX1_isTaken_23 hl (k := 0) rfl (by decide) (by decide) rfl (fun ls hl => ?_)
                                                                                  refine lv_goto (tgt := 2) hx hb dX1_isTaken_26 (by decide) ?_
                                                                                  refine lv_iload_n hx hb dX1_isTaken_2 rfl (lv_at hl 0 rfl) ?_
                                                                                  refine lv_bipush (v := 24) hx hb dX1_isTaken_3 (by decide) ?_
                                                                                  refine lv_icmp_ge (tgt := 29) hx hb dX1_isTaken_5 (by decide) (fun c_41 => ?_) (fun c_41 => ?_)
                                                                                  ·
                                                                                    exact absurd c_41 (by decide)
                                                                                  ·
                                                                                    refine lv_aload_n hx hb dX1_isTaken_8 rfl (lv_at hl 1 rfl) ?_
                                                                                    refine va_get (D := G.1) (ci := 1) (v := .ref a7) (C := RX1) (T := TX1) (N := 13) hx hb hts inG_X1 hown hK hP 0 rfl rfl 12 (by decide) (hts _ fl_X1_58) (fun _ h9 => h9) rfl dX1_isTaken_9 ?_
                                                                                    refine lv_iload_n hx hb dX1_isTaken_12 rfl (lv_at hl 0 rfl) ?_
                                                                                    refine va_lald hx hb hK hP 1 1 rfl rfl (i := 20) (by unfold vp_in; decide) dX1_isTaken_13 ?_
                                                                                    refine g5_tl (v := 0) rfl ?_
                                                                                    refine lv_iload_n hx hb dX1_isTaken_14 rfl (lv_at hl 2 rfl) ?_
                                                                                    have hPc := hP.sub (ws' := []) [] rfl
                                                                                    have hDc := hD.sub (ws' := []) [] (by decide) rfl
                                                                                    have hFc := va_free (wc := []) hD hS hA [] rfl
                                                                                    refine va_calli (va_runSN (As := [.long 0, .int n0]) (rest := []) ⟨hx, hb, hml, hown, hts⟩ (kX11_isOn_5 l G H.size n0 ⟨by omega, by omega⟩) ⟨va_cnB 2 hts gW_X11_isOn rfl rfl rfl (hN.1 _ g5_nw_X1_62) (hts _ ini_X11) hs_X11_isOn ⟨Nat.le_of_ble_eq_true rfl, Nat.le_of_ble_eq_true rfl⟩, hts _ st_X11_isOn, trivial⟩ (g5_preS hPc hK hDc hN hT hS hFc) rfl rfl hl.1 rfl (lv_room (Nat.le_of_ble_eq_true rfl)) dX1_isTaken_15 ⟨Nat.le_of_ble_eq_true rfl, Nat.le_of_ble_eq_true rfl⟩) hS (fun q _ h => hFc q h) hFc (fun r u t H1 locs ht hvm hw hB hz1 hk1 hS => ?_)
                                                                                    obtain ⟨hP1, hD1⟩ := hB
                                                                                    rw [ht] at hP1
                                                                                    obtain ⟨rfl, rfl⟩ := hw
                                                                                    have hP := g5_same hP hk1
                                                                                    generalize H1 = H at hP hS ⊢
                                                                                    refine lv_if_eq (tgt := 23) hx hb dX1_isTaken_18 (by decide) (fun c_42 => ?_) (fun c_42 => ?_)
                                                                                    ·
                                                                                      refine lv_iinc (v := 21) (lv' := [(2, .int 21), (0, .ref a0), (1, .int n0)]) hx hb dX1_isTaken_23 hl (k := 0) rfl (by decide) (by decide) rfl (fun ls hl => ?_)
                                                                                      refine lv_goto (tgt := 2) hx hb dX1_isTaken_26 (by decide) ?_
                                                                                      refine lv_iload_n hx hb dX1_isTaken_2 rfl (lv_at hl 0 rfl) ?_
                                                                                      refine lv_bipush (v := 24) hx hb dX1_isTaken_3 (by decide) ?_
                                                                                      refine lv_icmp_ge (tgt := 29) hx hb dX1_isTaken_5 (by decide) (fun c_43 => ?_) (fun c_43 => ?_)
                                                                                      ·
                                                                                        exact absurd c_43 (by decide)
                                                                                      ·
                                                                                        refine lv_aload_n hx hb dX1_isTaken_8 rfl (lv_at hl 1 rfl) ?_
                                                                                        refine va_get (D := G.1) (ci := 1) (v := .ref a7) (C := RX1) (T := TX1) (N := 13) hx hb hts inG_X1 hown hK hP 0 rfl rfl 12 (by decide) (hts _ fl_X1_58) (fun _ h9 => h9) rfl dX1_isTaken_9 ?_
                                                                                        refine lv_iload_n hx hb dX1_isTaken_12 rfl (lv_at hl 0 rfl) ?_
                                                                                        refine va_lald hx hb hK hP 1 1 rfl rfl (i := 21) (by unfold vp_in; decide) dX1_isTaken_13 ?_
                                                                                        refine g5_tl (v := 0) rfl ?_
                                                                                        refine lv_iload_n hx hb dX1_isTaken_14 rfl (lv_at hl 2 rfl) ?_
                                                                                        have hPc := hP.sub (ws' := []) [] rfl
                                                                                        have hDc := hD.sub (ws' := []) [] (by decide) rfl
                                                                                        have hFc := va_free (wc := []) hD hS hA [] rfl
                                                                                        refine va_calli (va_runSN (As := [.long 0, .int n0]) (rest := []) ⟨hx, hb, hml, hown, hts⟩ (kX11_isOn_5 l G H.size n0 ⟨by omega, by omega⟩) ⟨va_cnB 2 hts gW_X11_isOn rfl rfl rfl (hN.1 _ g5_nw_X1_62) (hts _ ini_X11) hs_X11_isOn ⟨Nat.le_of_ble_eq_true rfl, Nat.le_of_ble_eq_true rfl⟩, hts _ st_X11_isOn, trivial⟩ (g5_preS hPc hK hDc hN hT hS hFc) rfl rfl hl.1 rfl (lv_room (Nat.le_of_ble_eq_true rfl)) dX1_isTaken_15 ⟨Nat.le_of_ble_eq_true rfl, Nat.le_of_ble_eq_true rfl⟩) hS (fun q _ h => hFc q h) hFc (fun r u t H1 locs ht hvm hw hB hz1 hk1 hS => ?_)
                                                                                        obtain ⟨hP1, hD1⟩ := hB
                                                                                        rw [ht] at hP1
                                                                                        obtain ⟨rfl, rfl⟩ := hw
                                                                                        have hP := g5_same hP hk1
                                                                                        generalize H1 = H at hP hS ⊢
                                                                                        refine lv_if_eq (tgt := 23) hx hb dX1_isTaken_18 (by decide) (fun c_44 => ?_) (fun c_44 => ?_)
                                                                                        ·
                                                                                          refine lv_iinc (v := 22) (lv' := [(2, .int 22), (0, .ref a0), (1, .int n0)]) hx hb dX1_isTaken_23 hl (k := 0) rfl (by decide) (by decide) rfl (fun ls hl => ?_)
                                                                                          refine lv_goto (tgt := 2) hx hb dX1_isTaken_26 (by decide) ?_
                                                                                          refine lv_iload_n hx hb dX1_isTaken_2 rfl (lv_at hl 0 rfl) ?_
                                                                                          refine lv_bipush (v := 24) hx hb dX1_isTaken_3 (by decide) ?_
                                                                                          refine lv_icmp_ge (tgt := 29) hx hb dX1_isTaken_5 (by decide) (fun c_45 => ?_) (fun c_45 => ?_)
                                                                                          ·
                                                                                            exact absurd c_45 (by decide)
                                                                                          ·
                                                                                            refine lv_aload_n hx hb dX1_isTaken_8 rfl (lv_at hl 1 rfl) ?_
                                                                                            refine va_get (D := G.1) (ci := 1) (v := .ref a7) (C := RX1) (T := TX1) (N := 13) hx hb hts inG_X1 hown hK hP 0 rfl rfl 12 (by decide) (hts _ fl_X1_58) (fun _ h9 => h9) rfl dX1_isTaken_9 ?_
                                                                                            refine lv_iload_n hx hb dX1_isTaken_12 rfl (lv_at hl 0 rfl) ?_
                                                                                            refine va_lald hx hb hK hP 1 1 rfl rfl (i := 22) (by unfold vp_in; decide) dX1_isTaken_13 ?_
                                                                                            refine g5_tl (v := 0) rfl ?_
                                                                                            refine lv_iload_n hx hb dX1_isTaken_14 rfl (lv_at hl 2 rfl) ?_
                                                                                            have hPc := hP.sub (ws' := []) [] rfl
                                                                                            have hDc := hD.sub (ws' := []) [] (by decide) rfl
                                                                                            have hFc := va_free (wc := []) hD hS hA [] rfl
                                                                                            refine va_calli (va_runSN (As := [.long 0, .int n0]) (rest := []) ⟨hx, hb, hml, hown, hts⟩ (kX11_isOn_5 l G H.size n0 ⟨by omega, by omega⟩) ⟨va_cnB 2 hts gW_X11_isOn rfl rfl rfl (hN.1 _ g5_nw_X1_62) (hts _ ini_X11) hs_X11_isOn ⟨Nat.le_of_ble_eq_true rfl, Nat.le_of_ble_eq_true rfl⟩, hts _ st_X11_isOn, trivial⟩ (g5_preS hPc hK hDc hN hT hS hFc) rfl rfl hl.1 rfl (lv_room (Nat.le_of_ble_eq_true rfl)) dX1_isTaken_15 ⟨Nat.le_of_ble_eq_true rfl, Nat.le_of_ble_eq_true rfl⟩) hS (fun q _ h => hFc q h) hFc (fun r u t H1 locs ht hvm hw hB hz1 hk1 hS => ?_)
                                                                                            obtain ⟨hP1, hD1⟩ := hB
                                                                                            rw [ht] at hP1
                                                                                            obtain ⟨rfl, rfl⟩ := hw
                                                                                            have hP := g5_same hP hk1
                                                                                            generalize H1 = H at hP hS ⊢
                                                                                            refine lv_if_eq (tgt := 23) hx hb dX1_isTaken_18 (by decide) (fun c_46 => ?_) (fun c_46 => ?_)
                                                                                            ·
                                                                                              refine lv_iinc (v := 23) (lv' := [(2, .int 23), (0, .ref a0), (1, .int n0)]) hx hb dX1_isTaken_23 hl (k := 0) rfl (by decide) (by decide) rfl (fun ls hl => ?_)
                                                                                              refine lv_goto (tgt := 2) hx hb dX1_isTaken_26 (by decide) ?_
                                                                                              refine lv_iload_n hx hb dX1_isTaken_2 rfl (lv_at hl 0 rfl) ?_
                                                                                              refine lv_bipush (v := 24) hx hb dX1_isTaken_3 (by decide) ?_
                                                                                              refine lv_icmp_ge (tgt := 29) hx hb dX1_isTaken_5 (by decide) (fun c_47 => ?_) (fun c_47 => ?_)
                                                                                              ·
                                                                                                exact absurd c_47 (by decide)
                                                                                              ·
                                                                                                refine lv_aload_n hx hb dX1_isTaken_8 rfl (lv_at hl 1 rfl) ?_
                                                                                                refine va_get (D := G.1) (ci := 1) (v := .ref a7) (C := RX1) (T := TX1) (N := 13) hx hb hts inG_X1 hown hK hP 0 rfl rfl 12 (by decide) (hts _ fl_X1_58) (fun _ h9 => h9) rfl dX1_isTaken_9 ?_
                                                                                                refine lv_iload_n hx hb dX1_isTaken_12 rfl (lv_at hl 0 rfl) ?_
                                                                                                refine va_lald hx hb hK hP 1 1 rfl rfl (i := 23) (by unfold vp_in; decide) dX1_isTaken_13 ?_
                                                                                                refine g5_tl (v := 0) rfl ?_
                                                                                                refine lv_iload_n hx hb dX1_isTaken_14 rfl (lv_at hl 2 rfl) ?_
                                                                                                have hPc := hP.sub (ws' := []) [] rfl
                                                                                                have hDc := hD.sub (ws' := []) [] (by decide) rfl
                                                                                                have hFc := va_free (wc := []) hD hS hA [] rfl
                                                                                                refine va_calli (va_runSN (As := [.long 0, .int n0]) (rest := []) ⟨hx, hb, hml, hown, hts⟩ (kX11_isOn_5 l G H.size n0 ⟨by omega, by omega⟩) ⟨va_cnB 2 hts gW_X11_isOn rfl rfl rfl (hN.1 _ g5_nw_X1_62) (hts _ ini_X11) hs_X11_isOn ⟨Nat.le_of_ble_eq_true rfl, Nat.le_of_ble_eq_true rfl⟩, hts _ st_X11_isOn, trivial⟩ (g5_preS hPc hK hDc hN hT hS hFc) rfl rfl hl.1 rfl (lv_room (Nat.le_of_ble_eq_true rfl)) dX1_isTaken_15 ⟨Nat.le_of_ble_eq_true rfl, Nat.le_of_ble_eq_true rfl⟩) hS (fun q _ h => hFc q h) hFc (fun r u t H1 locs ht hvm hw hB hz1 hk1 hS => ?_)
                                                                                                obtain ⟨hP1, hD1⟩ := hB
                                                                                                rw [ht] at hP1
                                                                                                obtain ⟨rfl, rfl⟩ := hw
                                                                                                have hP := g5_same hP hk1
                                                                                                generalize H1 = H at hP hS ⊢
                                                                                                refine lv_if_eq (tgt := 23) hx hb dX1_isTaken_18 (by decide) (fun c_48 => ?_) (fun c_48 => ?_)
                                                                                                ·
                                                                                                  refine lv_iinc (v := 24) (lv' := [(2, .int 24), (0, .ref a0), (1, .int n0)]) hx hb dX1_isTaken_23 hl (k := 0) rfl (by decide) (by decide) rfl (fun ls hl => ?_)
                                                                                                  refine lv_goto (tgt := 2) hx hb dX1_isTaken_26 (by decide) ?_
                                                                                                  refine lv_iload_n hx hb dX1_isTaken_2 rfl (lv_at hl 0 rfl) ?_
                                                                                                  refine lv_bipush (v := 24) hx hb dX1_isTaken_3 (by decide) ?_
                                                                                                  refine lv_icmp_ge (tgt := 29) hx hb dX1_isTaken_5 (by decide) (fun c_49 => ?_) (fun c_49 => ?_)
                                                                                                  ·
                                                                                                    refine lv_aload_n hx hb dX1_isTaken_29 rfl (lv_at hl 1 rfl) ?_
                                                                                                    refine va_get (D := G.1) (ci := 1) (v := .long 0) (C := RX1) (T := TX1) (N := 13) hx hb hts inG_X1 hown hK hP 0 rfl rfl 11 (by decide) (hts _ fl_X1_55) (fun _ h9 => h9) rfl dX1_isTaken_30 ?_
                                                                                                    refine lv_iload_n hx hb dX1_isTaken_33 rfl (lv_at hl 2 rfl) ?_
                                                                                                    have hPc := hP.sub (ws' := []) [] rfl
                                                                                                    have hDc := hD.sub (ws' := []) [] (by decide) rfl
                                                                                                    have hFc := va_free (wc := []) hD hS hA [] rfl
                                                                                                    refine va_calli (va_runSN (As := [.long 0, .int n0]) (rest := []) ⟨hx, hb, hml, hown, hts⟩ (kX11_isOn_5 l G H.size n0 ⟨by omega, by omega⟩) ⟨va_cnB 2 hts gW_X11_isOn rfl rfl rfl (hN.1 _ g5_nw_X1_62) (hts _ ini_X11) hs_X11_isOn ⟨Nat.le_of_ble_eq_true rfl, Nat.le_of_ble_eq_true rfl⟩, hts _ st_X11_isOn, trivial⟩ (g5_preS hPc hK hDc hN hT hS hFc) rfl rfl hl.1 rfl (lv_room (Nat.le_of_ble_eq_true rfl)) dX1_isTaken_34 ⟨Nat.le_of_ble_eq_true rfl, Nat.le_of_ble_eq_true rfl⟩) hS (fun q _ h => hFc q h) hFc (fun r u t H1 locs ht hvm hw hB hz1 hk1 hS => ?_)
                                                                                                    obtain ⟨hP1, hD1⟩ := hB
                                                                                                    rw [ht] at hP1
                                                                                                    obtain ⟨rfl, rfl⟩ := hw
                                                                                                    have hP := g5_same hP hk1
                                                                                                    generalize H1 = H at hP hS ⊢
                                                                                                    refine lv_if_ne (tgt := 61) hx hb dX1_isTaken_37 (by decide) (fun c_50 => ?_) (fun c_50 => ?_)
                                                                                                    ·
                                                                                                      exact absurd c_50 (by decide)
                                                                                                    ·
                                                                                                      refine lv_aload_n hx hb dX1_isTaken_40 rfl (lv_at hl 1 rfl) ?_
                                                                                                      refine va_get (D := G.1) (ci := 1) (v := .ref a5) (C := RX1) (T := TX1) (N := 13) hx hb hts inG_X1 hown hK hP 0 rfl rfl 9 (by decide) (hts _ fl_X1_49) (fun _ h9 => h9) rfl dX1_isTaken_41 ?_
                                                                                                      refine lv_iconst (v := 0) hx hb dX1_isTaken_44 (by decide) ?_
                                                                                                      refine lv_iload_n hx hb dX1_isTaken_45 rfl (lv_at hl 2 rfl) ?_
                                                                                                      have hPc := hP.sub (ws' := [(a5, .inr (6, [.int 8, .int 5, .ref a8, .int 0]))]) [2] rfl
                                                                                                      have hDc := hD.sub (ws' := [(a5, .inr (6, [.int 8, .int 5, .ref a8, .int 0]))]) [2] (by decide) rfl
                                                                                                      have hFc := va_free (wc := [(a5, .inr (6, [.int 8, .int 5, .ref a8, .int 0]))]) hD hS hA [2] rfl
                                                                                                      refine va_calli (va_runV (As := [.int 0, .int n0]) (rest := []) ⟨hx, hb, hml, hown, hts⟩ (kX6_find l G a5 a8 H.size n0 ⟨by omega, by omega⟩) (cwV 2 hts gV_X1_66 rfl rfl rfl hv_X6_find ⟨Nat.le_of_ble_eq_true rfl, Nat.le_of_ble_eq_true rfl⟩) (g5_preV hPc hK hDc hN hT hS hFc (ci := 6) (q0 := 0) rfl rfl) rfl rfl hl.1 rfl (lv_room (Nat.le_of_ble_eq_true rfl)) dX1_isTaken_46 ⟨Nat.le_of_ble_eq_true rfl, Nat.le_of_ble_eq_true rfl⟩) hS (fun q _ h => hFc q h) hFc (fun r u t H1 locs ht hvm hw hB hz1 hk1 hS => ?_)
                                                                                                      obtain ⟨hP1, hD1⟩ := hB
                                                                                                      rw [ht] at hP1
                                                                                                      obtain ⟨rfl, rfl⟩ := hw
                                                                                                      obtain ⟨hP, hD⟩ := va_join (wr := [(a0, .inr (1, [.long 0, .int 1000, .int (-1), .int (-1), .int 0, .ref a1, .ref a2, .ref a3, .ref a4, .ref a5, .ref a6, .long 0, .ref a7])), (a7, .inl (G.2 1, 24, .inr (.inl (fun _ => 0))))]) (w1 := [(a5, .inr (6, [.int 8, .int 5, .ref a8, .int 0]))]) hP hD [2] [0, 1] rfl rfl (by decide) (by decide) hk1 hFc hP1 hD1
                                                                                                      generalize H1 = H at hP hS ⊢
                                                                                                      have hP : va_P G.1 vwCl [(a0, .inr (1, [.long 0, .int 1000, .int (-1), .int (-1), .int 0, .ref a1, .ref a2, .ref a3, .ref a4, .ref a5, .ref a6, .long 0, .ref a7])), (a7, .inl (G.2 1, 24, .inr (.inl (fun _ => 0)))), (a5, .inr (6, [.int 8, .int 5, .ref a8, .int 0]))] H := hP
                                                                                                      have hD : va_D A [(a0, .inr (1, [.long 0, .int 1000, .int (-1), .int (-1), .int 0, .ref a1, .ref a2, .ref a3, .ref a4, .ref a5, .ref a6, .long 0, .ref a7])), (a7, .inl (G.2 1, 24, .inr (.inl (fun _ => 0)))), (a5, .inr (6, [.int 8, .int 5, .ref a8, .int 0]))] := hD
                                                                                                      refine lv_iconst (v := (-1)) hx hb dX1_isTaken_49 (by decide) ?_
                                                                                                      refine lv_icmp_ne (tgt := 61) hx hb dX1_isTaken_50 (by decide) (fun c_51 => ?_) (fun c_51 => ?_)
                                                                                                      ·
                                                                                                        exact absurd c_51 (by decide)
                                                                                                      ·
                                                                                                        refine lv_aload_n hx hb dX1_isTaken_53 rfl (lv_at hl 1 rfl) ?_
                                                                                                        refine va_get (D := G.1) (ci := 1) (v := .int (-1)) (C := RX1) (T := TX1) (N := 13) hx hb hts inG_X1 hown hK hP 0 rfl rfl 2 (by decide) (hts _ fl_X1_19) (fun _ h9 => h9) rfl dX1_isTaken_54 ?_
                                                                                                        refine lv_iload_n hx hb dX1_isTaken_57 rfl (lv_at hl 2 rfl) ?_
                                                                                                        refine lv_icmp_ne (tgt := 65) hx hb dX1_isTaken_58 (by decide) (fun c_52 => ?_) (fun c_52 => ?_)
                                                                                                        ·
                                                                                                          have i_52 : (-1) ≠ n0.toInt := by have z := g5_ne (a := (-1)) (b := n0.toInt) (by decide) (by rfl) c_52; omega
                                                                                                          refine lv_iconst (v := 0) hx hb dX1_isTaken_65 (by decide) ?_
                                                                                                          exact W.zret (v := 0) hx hb hr rfl (fun t ht hW => ⟨⟨0, [(a0, .inr (1, [.long 0, .int 1000, .int (-1), .int (-1), .int 0, .ref a1, .ref a2, .ref a3, .ref a4, .ref a5, .ref a6, .long 0, .ref a7])), (a7, .inl (G.2 1, 24, .inr (.inl (fun _ => 0)))), (a5, .inr (6, [.int 8, .int 5, .ref a8, .int 0]))], rfl, ⟨i_52, rfl, rfl⟩, by rw [ht]; exact hP, hD⟩, hS.F ht⟩) hS.2.2 dX1_isTaken_66
                                                                                                        ·
                                                                                                          have i_52 : (-1) = n0.toInt := by have z := g5_neN (a := (-1)) (b := n0.toInt) (by decide) (by rfl) c_52; omega
                                                                                                          omega
                                                                                                  ·
                                                                                                    exact absurd c_49 (by decide)
                                                                                                ·
                                                                                                  exact absurd c_48 (by decide)
                                                                                            ·
                                                                                              exact absurd c_46 (by decide)
                                                                                        ·
                                                                                          exact absurd c_44 (by decide)
                                                                                    ·
                                                                                      exact absurd c_42 (by decide)
                                                                                ·
                                                                                  exact absurd c_40 (by decide)
                                                                            ·
                                                                              exact absurd c_38 (by decide)
                                                                        ·
                                                                          exact absurd c_36 (by decide)
                                                                    ·
                                                                      exact absurd c_34 (by decide)
                                                                ·
                                                                  exact absurd c_32 (by decide)
                                                            ·
                                                              exact absurd c_30 (by decide)
                                                        ·
                                                          exact absurd c_28 (by decide)
                                                    ·
                                                      exact absurd c_26 (by decide)
                                                ·
                                                  exact absurd c_24 (by decide)
                                            ·
                                              exact absurd c_22 (by decide)
                                        ·
                                          exact absurd c_20 (by decide)
                                    ·
                                      exact absurd c_18 (by decide)
                                ·
                                  exact absurd c_16 (by decide)
                            ·
                              exact absurd c_14 (by decide)
                        ·
                          exact absurd c_12 (by decide)
                    ·
                      exact absurd c_10 (by decide)
                ·
                  exact absurd c_8 (by decide)
            ·
              exact absurd c_6 (by decide)
        ·
          exact absurd c_4 (by decide)
    ·
      exact absurd c_2 (by decide)
theorem ml_X11_108 : Cond.methodLink RX11 108 yX1_isTaken ∈ tblG := tg 510 (by decide +kernel) (by decide +kernel)
theorem im_X1_isTaken : Cond.instanceMethod yX1_isTaken ∈ tblG := tg 511 (by decide +kernel) (by decide +kernel)
theorem se_X1_isTaken : Cond.selects RX1 yX1_isTaken yX1_isTaken ∈ tblG := tg 512 (by decide +kernel) (by decide +kernel)
theorem cd_X1_isTaken : Cond.code yX1_isTaken cX1_isTaken 3 (some .boolean) ∈ tblG := tg 513 (by decide +kernel) (by decide +kernel)
theorem gW_X1_isTaken : GoodIn tblG (wsG yX1_isTaken cX1_isTaken 3 (some .boolean)) := tgi cd_X1_isTaken
theorem gV_X11_108 : GoodIn tblG (wsV RX11 108 RX1 yX1_isTaken (wsG yX1_isTaken cX1_isTaken 3 (some .boolean))) := tgV ml_X11_108 im_X1_isTaken se_X1_isTaken ini_X1 gW_X1_isTaken
theorem hv_X1_isTaken : yX1_isTaken.cls = RX1 ∧ yX1_isTaken.cls ≠ "java/lang/invoke/MethodHandle" ∧ yX1_isTaken.cls ≠ "java/lang/invoke/VarHandle" ∧ (parseMethodDescriptor yX1_isTaken.desc).map (fun d => d.parameters.length) = some 1 := by decide +kernel
theorem kl_X11_119 : Cond.constantLong RX11 119 (-1) ∈ tblG := tg 526 (by decide +kernel) (by decide +kernel)
set_option maxHeartbeats 4000000 in
set_option maxRecDepth 100000 in
theorem kX11_done_2 (l : Launch) (G : g5_G) (a0 a1 a2 a3 a4 a5 a6 a7 a8 a9 a10 a11 a12 : Nat) (sz : Nat) : Met l yX11_done (wsG yX11_done cX11_done 2 (some .int)) ({ frames := 0, cells := 0, slots := 0, locals := 0 }) (va_Pc [.ref a0, .int 0] (g5_P G [(a0, .inr (11, [.ref a1, .ref a2, .ref a3, .ref a4, .ref a5, .ref a6, .ref a7, .ref a8, .ref a9, .ref a10, .int 0, .int 0, .int (-1), .ref a11, .int 0, .ref a12, .int 0]))] sz)) (va_Qi (fun (r : Int32) (u : va_W) => ((r = 0) ∧ (u = [(a0, .inr (11, [.ref a1, .ref a2, .ref a3, .ref a4, .ref a5, .ref a6, .ref a7, .ref a8, .ref a9, .ref a10, .int 0, .int 0, .int (-1), .ref a11, .int 0, .ref a12, .int 0]))]))) (g5_B G (va_A [(a0, .inr (11, [.ref a1, .ref a2, .ref a3, .ref a4, .ref a5, .ref a6, .ref a7, .ref a8, .ref a9, .ref a10, .int 0, .int 0, .int (-1), .ref a11, .int 0, .ref a12, .int 0]))] sz)) (va_A [(a0, .inr (11, [.ref a1, .ref a2, .ref a3, .ref a4, .ref a5, .ref a6, .ref a7, .ref a8, .ref a9, .ref a10, .int 0, .int 0, .int (-1), .ref a11, .int 0, .ref a12, .int 0]))] sz)) 0 0 (va_A [(a0, .inr (11, [.ref a1, .ref a2, .ref a3, .ref a4, .ref a5, .ref a6, .ref a7, .ref a8, .ref a9, .ref a10, .int 0, .int 0, .int (-1), .ref a11, .int 0, .ref a12, .int 0]))] sz) := by
  refine Met.ofW (cc := cX11_done) (maxL := 2) (ret := (some .int)) (by decide) rfl ?_
  intro p e s m args below meth c s₁ B hml hv
  obtain ⟨rfl, hsz, hP, hK, hD0, hN, hT⟩ := hv
  have hx := B.exec
  have hb := B.bytes
  have hr := B.returns
  have hts : ∀ w ∈ tblG, w.before _ s = true := fun w h => atoms_spec (ws := (wsG yX11_done cX11_done 2 (some .int))) B.pre w (List.mem_cons_of_mem _ h)
  have hown : s.vm.findClass RX11 = some m.cls := findClass_of_methodNamed B.named
  have hlocks := B.notSynchronized
  subst hsz
  have hD := hD0.self (sz := s.heap.size)
  generalize hAe : va_A [(a0, .inr (11, [.ref a1, .ref a2, .ref a3, .ref a4, .ref a5, .ref a6, .ref a7, .ref a8, .ref a9, .ref a10, .int 0, .int 0, .int (-1), .ref a11, .int 0, .ref a12, .int 0]))] s.heap.size = A at hD hT ⊢
  have hA : ∀ q : Nat, s.heap.size ≤ q → A q := fun q h => by rw [← hAe]; exact Or.inr h
  have hS : va_S A s.heap s.heap [] := va_S.rf
  have hP : va_P G.1 vwCl [(a0, .inr (11, [.ref a1, .ref a2, .ref a3, .ref a4, .ref a5, .ref a6, .ref a7, .ref a8, .ref a9, .ref a10, .int 0, .int 0, .int (-1), .ref a11, .int 0, .ref a12, .int 0]))] s.heap := hP
  have hl := lv_entry ([.ref a0, .int 0]) (n := 2) (Nat.le_of_ble_eq_true rfl)
  rw [lg_entry_eq]
  generalize (lg_sl ([.ref a0, .int 0]) ++ List.replicate (2 - (lg_sl ([.ref a0, .int 0])).length) Slot.unset).toArray = ls at hl ⊢
  have hl : lv_has ls 2 [(0, .ref a0), (1, .int 0)] := hl
  refine lv_aload_n hx hb dX11_done_0 rfl (lv_at hl 0 rfl) ?_
  refine lv_iconst (v := 0) hx hb dX11_done_1 (by decide) ?_
  refine va_put (D := G.1) (ci := 11) (v := .int 0) (ty := .int) (C := RX11) (T := TX11) (N := 17) hx hb hts inG_X11 tyX11 tyX11_ok nmX11 hown hK hP hD hS 0 rfl rfl 16 (by decide) (hts _ fl_X11_94) (fun _ h9 => h9) rfl (by decide +kernel) rfl rfl (Nat.le_of_ble_eq_true rfl) dX11_done_2 (fun H locs hP hD hS => ?_)
  have hP : va_P G.1 vwCl [(a0, .inr (11, [.ref a1, .ref a2, .ref a3, .ref a4, .ref a5, .ref a6, .ref a7, .ref a8, .ref a9, .ref a10, .int 0, .int 0, .int (-1), .ref a11, .int 0, .ref a12, .int 0]))] H := hP
  have hD : va_D A [(a0, .inr (11, [.ref a1, .ref a2, .ref a3, .ref a4, .ref a5, .ref a6, .ref a7, .ref a8, .ref a9, .ref a10, .int 0, .int 0, .int (-1), .ref a11, .int 0, .ref a12, .int 0]))] := hD
  refine lv_iload_n hx hb dX11_done_5 rfl (lv_at hl 1 rfl) ?_
  exact W.iret (v := 0) hx hb hr (fun t ht hW => ⟨⟨0, [(a0, .inr (11, [.ref a1, .ref a2, .ref a3, .ref a4, .ref a5, .ref a6, .ref a7, .ref a8, .ref a9, .ref a10, .int 0, .int 0, .int (-1), .ref a11, .int 0, .ref a12, .int 0]))], rfl, ⟨rfl, rfl⟩, by rw [ht]; exact hP, hD⟩, hS.F ht⟩) hS.2.2 dX11_done_6
theorem dX11_wall_0 : decode cX11_wall 0 = .ok (.iload_n 1, 1) := by decide +kernel
theorem dX11_wall_1 : decode cX11_wall 1 = .ok (.invokestatic 97, 3) := by decide +kernel
theorem dX11_wall_4 : decode cX11_wall 4 = .ok (.ifCond .eq 10, 3) := by decide +kernel
theorem dX11_wall_7 : decode cX11_wall 7 = .ok (.iload_n 2, 1) := by decide +kernel
theorem dX11_wall_8 : decode cX11_wall 8 = .ok (.invokestatic 101, 3) := by decide +kernel
theorem dX11_wall_11 : decode cX11_wall 11 = .ok (.ifCond .ne 9, 3) := by decide +kernel
theorem dX11_wall_14 : decode cX11_wall 14 = .ok (.aload_n 0, 1) := by decide +kernel
theorem dX11_wall_15 : decode cX11_wall 15 = .ok (.iconst (-1), 1) := by decide +kernel
theorem dX11_wall_16 : decode cX11_wall 16 = .ok (.invokevirtual 104, 3) := by decide +kernel
theorem dX11_wall_19 : decode cX11_wall 19 = .ok (.ireturn, 1) := by decide +kernel
theorem dX11_wall_20 : decode cX11_wall 20 = .ok (.aload_n 0, 1) := by decide +kernel
theorem dX11_wall_21 : decode cX11_wall 21 = .ok (.getfield 12, 3) := by decide +kernel
theorem dX11_wall_24 : decode cX11_wall 24 = .ok (.iload_n 1, 1) := by decide +kernel
theorem dX11_wall_25 : decode cX11_wall 25 = .ok (.invokevirtual 108, 3) := by decide +kernel
theorem dX11_wall_28 : decode cX11_wall 28 = .ok (.ifCond .eq 10, 3) := by decide +kernel
theorem dX11_wall_31 : decode cX11_wall 31 = .ok (.aload_n 0, 1) := by decide +kernel
theorem dX11_wall_32 : decode cX11_wall 32 = .ok (.bipush (-3), 2) := by decide +kernel
theorem dX11_wall_34 : decode cX11_wall 34 = .ok (.invokevirtual 104, 3) := by decide +kernel
theorem dX11_wall_37 : decode cX11_wall 37 = .ok (.ireturn, 1) := by decide +kernel
theorem dX11_wall_38 : decode cX11_wall 38 = .ok (.aload_n 0, 1) := by decide +kernel
theorem dX11_wall_39 : decode cX11_wall 39 = .ok (.getfield 12, 3) := by decide +kernel
theorem dX11_wall_42 : decode cX11_wall 42 = .ok (.getfield 111, 3) := by decide +kernel
theorem dX11_wall_45 : decode cX11_wall 45 = .ok (.iload_n 1, 1) := by decide +kernel
theorem dX11_wall_46 : decode cX11_wall 46 = .ok (.invokestatic 115, 3) := by decide +kernel
theorem dX11_wall_49 : decode cX11_wall 49 = .ok (.ifCond .eq 7, 3) := by decide +kernel
theorem dX11_wall_52 : decode cX11_wall 52 = .ok (.iconst 1, 1) := by decide +kernel
theorem dX11_wall_53 : decode cX11_wall 53 = .ok (.goto 4, 3) := by decide +kernel
theorem dX11_wall_56 : decode cX11_wall 56 = .ok (.iconst 0, 1) := by decide +kernel
theorem dX11_wall_57 : decode cX11_wall 57 = .ok (.istore_n 3, 1) := by decide +kernel
theorem dX11_wall_58 : decode cX11_wall 58 = .ok (.aload_n 0, 1) := by decide +kernel
theorem dX11_wall_59 : decode cX11_wall 59 = .ok (.getfield 12, 3) := by decide +kernel
theorem dX11_wall_62 : decode cX11_wall 62 = .ok (.iload_n 2, 1) := by decide +kernel
theorem dX11_wall_63 : decode cX11_wall 63 = .ok (.iconst 1, 1) := by decide +kernel
theorem dX11_wall_64 : decode cX11_wall 64 = .ok (.if_icmp .ne 17, 3) := by decide +kernel
theorem dX11_wall_67 : decode cX11_wall 67 = .ok (.aload_n 0, 1) := by decide +kernel
theorem dX11_wall_68 : decode cX11_wall 68 = .ok (.getfield 12, 3) := by decide +kernel
theorem dX11_wall_71 : decode cX11_wall 71 = .ok (.getfield 111, 3) := by decide +kernel
theorem dX11_wall_74 : decode cX11_wall 74 = .ok (.lconst 1, 1) := by decide +kernel
theorem dX11_wall_75 : decode cX11_wall 75 = .ok (.iload_n 1, 1) := by decide +kernel
theorem dX11_wall_76 : decode cX11_wall 76 = .ok (.lshl, 1) := by decide +kernel
theorem dX11_wall_77 : decode cX11_wall 77 = .ok (.lor, 1) := by decide +kernel
theorem dX11_wall_78 : decode cX11_wall 78 = .ok (.goto 18, 3) := by decide +kernel
theorem dX11_wall_81 : decode cX11_wall 81 = .ok (.aload_n 0, 1) := by decide +kernel
theorem dX11_wall_82 : decode cX11_wall 82 = .ok (.getfield 12, 3) := by decide +kernel
theorem dX11_wall_85 : decode cX11_wall 85 = .ok (.getfield 111, 3) := by decide +kernel
theorem dX11_wall_88 : decode cX11_wall 88 = .ok (.lconst 1, 1) := by decide +kernel
theorem dX11_wall_89 : decode cX11_wall 89 = .ok (.iload_n 1, 1) := by decide +kernel
theorem dX11_wall_90 : decode cX11_wall 90 = .ok (.lshl, 1) := by decide +kernel
theorem dX11_wall_91 : decode cX11_wall 91 = .ok (.ldc2_w 119, 3) := by decide +kernel
theorem dX11_wall_94 : decode cX11_wall 94 = .ok (.lxor, 1) := by decide +kernel
theorem dX11_wall_95 : decode cX11_wall 95 = .ok (.land, 1) := by decide +kernel
theorem dX11_wall_96 : decode cX11_wall 96 = .ok (.putfield 111, 3) := by decide +kernel
theorem dX11_wall_99 : decode cX11_wall 99 = .ok (.aload_n 0, 1) := by decide +kernel
theorem dX11_wall_100 : decode cX11_wall 100 = .ok (.iload_n 3, 1) := by decide +kernel
theorem dX11_wall_101 : decode cX11_wall 101 = .ok (.invokevirtual 121, 3) := by decide +kernel
theorem dX11_wall_104 : decode cX11_wall 104 = .ok (.ireturn, 1) := by decide +kernel
set_option maxHeartbeats 4000000 in
set_option maxRecDepth 100000 in
theorem kX11_wall (l : Launch) (G : g5_G) (a0 a1 a2 a3 a4 a5 a6 a7 a8 a9 a10 a11 a12 a13 a14 a15 a16 a17 a18 a19 a20 : Nat) (sz : Nat) (n0 : Int32) (n1 : Int32) : Met l yX11_wall (wsG yX11_wall cX11_wall 4 (some .int)) ({ frames := 2, cells := 0, slots := 0, locals := 45 }) (va_Pc [.ref a0, .int n0, .int n1] (g5_P G [(a0, .inr (11, [.ref a1, .ref a2, .ref a3, .ref a4, .ref a5, .ref a6, .ref a7, .ref a8, .ref a9, .ref a10, .int 0, .int 0, .int (-1), .ref a11, .int 0, .ref a12, .int 0])), (a12, .inl (G.2 0, 5, .inl (fun _ => 0))), (a1, .inr (1, [.long 0, .int 1000, .int (-1), .int (-1), .int 0, .ref a13, .ref a14, .ref a15, .ref a16, .ref a17, .ref a18, .long 0, .ref a19])), (a19, .inl (G.2 1, 24, .inr (.inl (fun _ => 0)))), (a17, .inr (6, [.int 8, .int 5, .ref a20, .int 0]))] sz)) (va_Qi (fun (r : Int32) (u : va_W) => ((n0.toInt < 0) ∧ (r = (-1)) ∧ (u = [])) ∨ ((n0.toInt ≥ 0) ∧ (n0.toInt ≥ 64) ∧ (r = (-1)) ∧ (u = [])) ∨ ((n0.toInt ≥ 0) ∧ (n0.toInt < 64) ∧ (n1.toInt = 0) ∧ ((-1) ≠ n0.toInt) ∧ (n1.toInt ≠ 1) ∧ (r = 0) ∧ (u = [])) ∨ ((n0.toInt ≥ 0) ∧ (n0.toInt < 64) ∧ (n1.toInt ≠ 0) ∧ (n1.toInt ≠ 1) ∧ (r = (-1)) ∧ (u = [])) ∨ ((n0.toInt ≥ 0) ∧ (n0.toInt < 64) ∧ (n1.toInt ≠ 0) ∧ (n1.toInt = 1) ∧ ((-1) ≠ n0.toInt) ∧ (n1.toInt = 1) ∧ (r = 0) ∧ (u = []))) (g5_B G (va_A [(a0, .inr (11, [.ref a1, .ref a2, .ref a3, .ref a4, .ref a5, .ref a6, .ref a7, .ref a8, .ref a9, .ref a10, .int 0, .int 0, .int (-1), .ref a11, .int 0, .ref a12, .int 0])), (a12, .inl (G.2 0, 5, .inl (fun _ => 0))), (a1, .inr (1, [.long 0, .int 1000, .int (-1), .int (-1), .int 0, .ref a13, .ref a14, .ref a15, .ref a16, .ref a17, .ref a18, .long 0, .ref a19])), (a19, .inl (G.2 1, 24, .inr (.inl (fun _ => 0)))), (a17, .inr (6, [.int 8, .int 5, .ref a20, .int 0]))] sz)) (va_A [(a0, .inr (11, [.ref a1, .ref a2, .ref a3, .ref a4, .ref a5, .ref a6, .ref a7, .ref a8, .ref a9, .ref a10, .int 0, .int 0, .int (-1), .ref a11, .int 0, .ref a12, .int 0])), (a12, .inl (G.2 0, 5, .inl (fun _ => 0))), (a1, .inr (1, [.long 0, .int 1000, .int (-1), .int (-1), .int 0, .ref a13, .ref a14, .ref a15, .ref a16, .ref a17, .ref a18, .long 0, .ref a19])), (a19, .inl (G.2 1, 24, .inr (.inl (fun _ => 0)))), (a17, .inr (6, [.int 8, .int 5, .ref a20, .int 0]))] sz)) 0 0 (va_A [(a0, .inr (11, [.ref a1, .ref a2, .ref a3, .ref a4, .ref a5, .ref a6, .ref a7, .ref a8, .ref a9, .ref a10, .int 0, .int 0, .int (-1), .ref a11, .int 0, .ref a12, .int 0])), (a12, .inl (G.2 0, 5, .inl (fun _ => 0))), (a1, .inr (1, [.long 0, .int 1000, .int (-1), .int (-1), .int 0, .ref a13, .ref a14, .ref a15, .ref a16, .ref a17, .ref a18, .long 0, .ref a19])), (a19, .inl (G.2 1, 24, .inr (.inl (fun _ => 0)))), (a17, .inr (6, [.int 8, .int 5, .ref a20, .int 0]))] sz) := by
  refine Met.ofW (cc := cX11_wall) (maxL := 4) (ret := (some .int)) (by decide) rfl ?_
  intro p e s m args below meth c s₁ B hml hv
  obtain ⟨rfl, hsz, hP, hK, hD0, hN, hT⟩ := hv
  have hx := B.exec
  have hb := B.bytes
  have hr := B.returns
  have hts : ∀ w ∈ tblG, w.before _ s = true := fun w h => atoms_spec (ws := (wsG yX11_wall cX11_wall 4 (some .int))) B.pre w (List.mem_cons_of_mem _ h)
  have hown : s.vm.findClass RX11 = some m.cls := findClass_of_methodNamed B.named
  have hlocks := B.notSynchronized
  subst hsz
  have hD := hD0.self (sz := s.heap.size)
  generalize hAe : va_A [(a0, .inr (11, [.ref a1, .ref a2, .ref a3, .ref a4, .ref a5, .ref a6, .ref a7, .ref a8, .ref a9, .ref a10, .int 0, .int 0, .int (-1), .ref a11, .int 0, .ref a12, .int 0])), (a12, .inl (G.2 0, 5, .inl (fun _ => 0))), (a1, .inr (1, [.long 0, .int 1000, .int (-1), .int (-1), .int 0, .ref a13, .ref a14, .ref a15, .ref a16, .ref a17, .ref a18, .long 0, .ref a19])), (a19, .inl (G.2 1, 24, .inr (.inl (fun _ => 0)))), (a17, .inr (6, [.int 8, .int 5, .ref a20, .int 0]))] s.heap.size = A at hD hT ⊢
  have hA : ∀ q : Nat, s.heap.size ≤ q → A q := fun q h => by rw [← hAe]; exact Or.inr h
  have hS : va_S A s.heap s.heap [] := va_S.rf
  have hP : va_P G.1 vwCl [(a0, .inr (11, [.ref a1, .ref a2, .ref a3, .ref a4, .ref a5, .ref a6, .ref a7, .ref a8, .ref a9, .ref a10, .int 0, .int 0, .int (-1), .ref a11, .int 0, .ref a12, .int 0])), (a12, .inl (G.2 0, 5, .inl (fun _ => 0))), (a1, .inr (1, [.long 0, .int 1000, .int (-1), .int (-1), .int 0, .ref a13, .ref a14, .ref a15, .ref a16, .ref a17, .ref a18, .long 0, .ref a19])), (a19, .inl (G.2 1, 24, .inr (.inl (fun _ => 0)))), (a17, .inr (6, [.int 8, .int 5, .ref a20, .int 0]))] s.heap := hP
  have hl := lv_entry ([.ref a0, .int n0, .int n1]) (n := 4) (Nat.le_of_ble_eq_true rfl)
  rw [lg_entry_eq]
  generalize (lg_sl ([.ref a0, .int n0, .int n1]) ++ List.replicate (4 - (lg_sl ([.ref a0, .int n0, .int n1])).length) Slot.unset).toArray = ls at hl ⊢
  have hl : lv_has ls 4 [(0, .ref a0), (1, .int n0), (2, .int n1)] := hl
  refine lv_iload_n hx hb dX11_wall_0 rfl (lv_at hl 1 rfl) ?_
  have hPc := hP.sub (ws' := []) [] rfl
  have hDc := hD.sub (ws' := []) [] (by decide) rfl
  have hFc := va_free (wc := []) hD hS hA [] rfl
  refine va_calli (va_runS (As := [.int n0]) (rest := []) ⟨hx, hb, hml, hown, hts⟩ (kX11_isCell_2 l G s.heap.size n0) (va_cwS 1 hts gS_X11_97 rfl rfl rfl hs_X11_isCell ⟨Nat.le_of_ble_eq_true rfl, Nat.le_of_ble_eq_true rfl⟩) (g5_preS hPc hK hDc hN hT hS hFc) rfl rfl hl.1 rfl (lv_room (Nat.le_of_ble_eq_true rfl)) dX11_wall_1 ⟨Nat.le_of_ble_eq_true rfl, Nat.le_of_ble_eq_true rfl⟩) hS (fun q _ h => hFc q h) hFc (fun r u t H1 locs ht hvm hw hB hz1 hk1 hS => ?_)
  obtain ⟨hP1, hD1⟩ := hB
  rw [ht] at hP1
  rcases hw with ⟨i_1, rfl, rfl⟩ | ⟨i_2, i_3, rfl, rfl⟩ | ⟨i_4, i_5, rfl, rfl⟩
  ·
    have hP := g5_same hP hk1
    generalize H1 = H at hP hS ⊢
    refine lv_if_eq (tgt := 14) hx hb dX11_wall_4 (by decide) (fun c_6 => ?_) (fun c_6 => ?_)
    ·
      refine lv_aload_n hx hb dX11_wall_14 rfl (lv_at hl 0 rfl) ?_
      refine lv_iconst (v := (-1)) hx hb dX11_wall_15 (by decide) ?_
      have hPc := hP.sub (ws' := [(a0, .inr (11, [.ref a1, .ref a2, .ref a3, .ref a4, .ref a5, .ref a6, .ref a7, .ref a8, .ref a9, .ref a10, .int 0, .int 0, .int (-1), .ref a11, .int 0, .ref a12, .int 0])), (a12, .inl (G.2 0, 5, .inl (fun _ => 0)))]) [0, 1] rfl
      have hDc := hD.sub (ws' := [(a0, .inr (11, [.ref a1, .ref a2, .ref a3, .ref a4, .ref a5, .ref a6, .ref a7, .ref a8, .ref a9, .ref a10, .int 0, .int 0, .int (-1), .ref a11, .int 0, .ref a12, .int 0])), (a12, .inl (G.2 0, 5, .inl (fun _ => 0)))]) [0, 1] (by decide) rfl
      have hFc := va_free (wc := [(a0, .inr (11, [.ref a1, .ref a2, .ref a3, .ref a4, .ref a5, .ref a6, .ref a7, .ref a8, .ref a9, .ref a10, .int 0, .int 0, .int (-1), .ref a11, .int 0, .ref a12, .int 0])), (a12, .inl (G.2 0, 5, .inl (fun _ => 0)))]) hD hS hA [0, 1] rfl
      refine va_calli (va_runV (As := [.int (-1)]) (rest := []) ⟨hx, hb, hml, hown, hts⟩ (kX11_refuse l G a0 a1 a2 a3 a4 a5 a6 a7 a8 a9 a10 a11 a12 H.size) (cwV 1 hts gV_X11_104 rfl rfl rfl hv_X11_refuse ⟨Nat.le_of_ble_eq_true rfl, Nat.le_of_ble_eq_true rfl⟩) (g5_preV hPc hK hDc hN hT hS hFc (ci := 11) (q0 := 0) rfl rfl) rfl rfl hl.1 rfl (lv_room (Nat.le_of_ble_eq_true rfl)) dX11_wall_16 ⟨Nat.le_of_ble_eq_true rfl, Nat.le_of_ble_eq_true rfl⟩) hS (fun q _ h => hFc q h) hFc (fun r u t H1 locs ht hvm hw hB hz1 hk1 hS => ?_)
      obtain ⟨hP1, hD1⟩ := hB
      rw [ht] at hP1
      obtain ⟨rfl, rfl⟩ := hw
      obtain ⟨hP, hD⟩ := va_join (wr := [(a1, .inr (1, [.long 0, .int 1000, .int (-1), .int (-1), .int 0, .ref a13, .ref a14, .ref a15, .ref a16, .ref a17, .ref a18, .long 0, .ref a19])), (a19, .inl (G.2 1, 24, .inr (.inl (fun _ => 0)))), (a17, .inr (6, [.int 8, .int 5, .ref a20, .int 0]))]) (w1 := [(a0, .inr (11, [.ref a1, .ref a2, .ref a3, .ref a4, .ref a5, .ref a6, .ref a7, .ref a8, .ref a9, .ref a10, .int 0, .int 0, .int (-1), .ref a11, .int 0, .ref a12, .int (-1)])), (a12, .inl (G.2 0, 5, .inl (upd (fun _ => 0) 0 1)))]) hP hD [0, 1] [2, 3, 4] rfl rfl (by decide) (by decide) hk1 hFc hP1 hD1
      generalize H1 = H at hP hS ⊢
      have hP : va_P G.1 vwCl [(a1, .inr (1, [.long 0, .int 1000, .int (-1), .int (-1), .int 0, .ref a13, .ref a14, .ref a15, .ref a16, .ref a17, .ref a18, .long 0, .ref a19])), (a19, .inl (G.2 1, 24, .inr (.inl (fun _ => 0)))), (a17, .inr (6, [.int 8, .int 5, .ref a20, .int 0])), (a0, .inr (11, [.ref a1, .ref a2, .ref a3, .ref a4, .ref a5, .ref a6, .ref a7, .ref a8, .ref a9, .ref a10, .int 0, .int 0, .int (-1), .ref a11, .int 0, .ref a12, .int (-1)])), (a12, .inl (G.2 0, 5, .inl (upd (fun _ => 0) 0 1)))] H := hP
      have hD : va_D A [(a1, .inr (1, [.long 0, .int 1000, .int (-1), .int (-1), .int 0, .ref a13, .ref a14, .ref a15, .ref a16, .ref a17, .ref a18, .long 0, .ref a19])), (a19, .inl (G.2 1, 24, .inr (.inl (fun _ => 0)))), (a17, .inr (6, [.int 8, .int 5, .ref a20, .int 0])), (a0, .inr (11, [.ref a1, .ref a2, .ref a3, .ref a4, .ref a5, .ref a6, .ref a7, .ref a8, .ref a9, .ref a10, .int 0, .int 0, .int (-1), .ref a11, .int 0, .ref a12, .int (-1)])), (a12, .inl (G.2 0, 5, .inl (upd (fun _ => 0) 0 1)))] := hD
      have hP := hP.sub (ws' := []) [] rfl
      have hD := hD.sub (ws' := []) [] (by decide) rfl
      exact W.iret (v := (-1)) hx hb hr (fun t ht hW => ⟨⟨(-1), [], rfl, Or.inl (⟨i_1, rfl, rfl⟩), by rw [ht]; exact hP, hD⟩, hS.F ht⟩) hS.2.2 dX11_wall_19
    ·
      exact absurd c_6 (by decide)
  ·
    have hP := g5_same hP hk1
    generalize H1 = H at hP hS ⊢
    refine lv_if_eq (tgt := 14) hx hb dX11_wall_4 (by decide) (fun c_7 => ?_) (fun c_7 => ?_)
    ·
      refine lv_aload_n hx hb dX11_wall_14 rfl (lv_at hl 0 rfl) ?_
      refine lv_iconst (v := (-1)) hx hb dX11_wall_15 (by decide) ?_
      have hPc := hP.sub (ws' := [(a0, .inr (11, [.ref a1, .ref a2, .ref a3, .ref a4, .ref a5, .ref a6, .ref a7, .ref a8, .ref a9, .ref a10, .int 0, .int 0, .int (-1), .ref a11, .int 0, .ref a12, .int 0])), (a12, .inl (G.2 0, 5, .inl (fun _ => 0)))]) [0, 1] rfl
      have hDc := hD.sub (ws' := [(a0, .inr (11, [.ref a1, .ref a2, .ref a3, .ref a4, .ref a5, .ref a6, .ref a7, .ref a8, .ref a9, .ref a10, .int 0, .int 0, .int (-1), .ref a11, .int 0, .ref a12, .int 0])), (a12, .inl (G.2 0, 5, .inl (fun _ => 0)))]) [0, 1] (by decide) rfl
      have hFc := va_free (wc := [(a0, .inr (11, [.ref a1, .ref a2, .ref a3, .ref a4, .ref a5, .ref a6, .ref a7, .ref a8, .ref a9, .ref a10, .int 0, .int 0, .int (-1), .ref a11, .int 0, .ref a12, .int 0])), (a12, .inl (G.2 0, 5, .inl (fun _ => 0)))]) hD hS hA [0, 1] rfl
      refine va_calli (va_runV (As := [.int (-1)]) (rest := []) ⟨hx, hb, hml, hown, hts⟩ (kX11_refuse l G a0 a1 a2 a3 a4 a5 a6 a7 a8 a9 a10 a11 a12 H.size) (cwV 1 hts gV_X11_104 rfl rfl rfl hv_X11_refuse ⟨Nat.le_of_ble_eq_true rfl, Nat.le_of_ble_eq_true rfl⟩) (g5_preV hPc hK hDc hN hT hS hFc (ci := 11) (q0 := 0) rfl rfl) rfl rfl hl.1 rfl (lv_room (Nat.le_of_ble_eq_true rfl)) dX11_wall_16 ⟨Nat.le_of_ble_eq_true rfl, Nat.le_of_ble_eq_true rfl⟩) hS (fun q _ h => hFc q h) hFc (fun r u t H1 locs ht hvm hw hB hz1 hk1 hS => ?_)
      obtain ⟨hP1, hD1⟩ := hB
      rw [ht] at hP1
      obtain ⟨rfl, rfl⟩ := hw
      obtain ⟨hP, hD⟩ := va_join (wr := [(a1, .inr (1, [.long 0, .int 1000, .int (-1), .int (-1), .int 0, .ref a13, .ref a14, .ref a15, .ref a16, .ref a17, .ref a18, .long 0, .ref a19])), (a19, .inl (G.2 1, 24, .inr (.inl (fun _ => 0)))), (a17, .inr (6, [.int 8, .int 5, .ref a20, .int 0]))]) (w1 := [(a0, .inr (11, [.ref a1, .ref a2, .ref a3, .ref a4, .ref a5, .ref a6, .ref a7, .ref a8, .ref a9, .ref a10, .int 0, .int 0, .int (-1), .ref a11, .int 0, .ref a12, .int (-1)])), (a12, .inl (G.2 0, 5, .inl (upd (fun _ => 0) 0 1)))]) hP hD [0, 1] [2, 3, 4] rfl rfl (by decide) (by decide) hk1 hFc hP1 hD1
      generalize H1 = H at hP hS ⊢
      have hP : va_P G.1 vwCl [(a1, .inr (1, [.long 0, .int 1000, .int (-1), .int (-1), .int 0, .ref a13, .ref a14, .ref a15, .ref a16, .ref a17, .ref a18, .long 0, .ref a19])), (a19, .inl (G.2 1, 24, .inr (.inl (fun _ => 0)))), (a17, .inr (6, [.int 8, .int 5, .ref a20, .int 0])), (a0, .inr (11, [.ref a1, .ref a2, .ref a3, .ref a4, .ref a5, .ref a6, .ref a7, .ref a8, .ref a9, .ref a10, .int 0, .int 0, .int (-1), .ref a11, .int 0, .ref a12, .int (-1)])), (a12, .inl (G.2 0, 5, .inl (upd (fun _ => 0) 0 1)))] H := hP
      have hD : va_D A [(a1, .inr (1, [.long 0, .int 1000, .int (-1), .int (-1), .int 0, .ref a13, .ref a14, .ref a15, .ref a16, .ref a17, .ref a18, .long 0, .ref a19])), (a19, .inl (G.2 1, 24, .inr (.inl (fun _ => 0)))), (a17, .inr (6, [.int 8, .int 5, .ref a20, .int 0])), (a0, .inr (11, [.ref a1, .ref a2, .ref a3, .ref a4, .ref a5, .ref a6, .ref a7, .ref a8, .ref a9, .ref a10, .int 0, .int 0, .int (-1), .ref a11, .int 0, .ref a12, .int (-1)])), (a12, .inl (G.2 0, 5, .inl (upd (fun _ => 0) 0 1)))] := hD
      have hP := hP.sub (ws' := []) [] rfl
      have hD := hD.sub (ws' := []) [] (by decide) rfl
      exact W.iret (v := (-1)) hx hb hr (fun t ht hW => ⟨⟨(-1), [], rfl, Or.inr (Or.inl (⟨i_2, i_3, rfl, rfl⟩)), by rw [ht]; exact hP, hD⟩, hS.F ht⟩) hS.2.2 dX11_wall_19
    ·
      exact absurd c_7 (by decide)
  ·
    have hP := g5_same hP hk1
    generalize H1 = H at hP hS ⊢
    refine lv_if_eq (tgt := 14) hx hb dX11_wall_4 (by decide) (fun c_8 => ?_) (fun c_8 => ?_)
    ·
      exact absurd c_8 (by decide)
    ·
      refine lv_iload_n hx hb dX11_wall_7 rfl (lv_at hl 2 rfl) ?_
      have hPc := hP.sub (ws' := []) [] rfl
      have hDc := hD.sub (ws' := []) [] (by decide) rfl
      have hFc := va_free (wc := []) hD hS hA [] rfl
      refine va_calli (va_runS (As := [.int n1]) (rest := []) ⟨hx, hb, hml, hown, hts⟩ (kX11_isFlag l G H.size n1) (va_cwS 1 hts gS_X11_101 rfl rfl rfl hs_X11_isFlag ⟨Nat.le_of_ble_eq_true rfl, Nat.le_of_ble_eq_true rfl⟩) (g5_preS hPc hK hDc hN hT hS hFc) rfl rfl hl.1 rfl (lv_room (Nat.le_of_ble_eq_true rfl)) dX11_wall_8 ⟨Nat.le_of_ble_eq_true rfl, Nat.le_of_ble_eq_true rfl⟩) hS (fun q _ h => hFc q h) hFc (fun r u t H1 locs ht hvm hw hB hz1 hk1 hS => ?_)
      obtain ⟨hP1, hD1⟩ := hB
      rw [ht] at hP1
      rcases hw with ⟨i_9, rfl, rfl⟩ | ⟨i_10, i_11, rfl, rfl⟩ | ⟨i_12, i_13, rfl, rfl⟩
      ·
        have hP := g5_same hP hk1
        generalize H1 = H at hP hS ⊢
        refine lv_if_ne (tgt := 20) hx hb dX11_wall_11 (by decide) (fun c_14 => ?_) (fun c_14 => ?_)
        ·
          refine lv_aload_n hx hb dX11_wall_20 rfl (lv_at hl 0 rfl) ?_
          refine va_get (D := G.1) (ci := 11) (v := .ref a1) (C := RX11) (T := TX11) (N := 17) hx hb hts inG_X11 hown hK hP 0 rfl rfl 0 (by decide) (hts _ fl_X11_12) (fun _ h9 => h9) rfl dX11_wall_21 ?_
          refine lv_iload_n hx hb dX11_wall_24 rfl (lv_at hl 1 rfl) ?_
          have hPc := hP.sub (ws' := [(a1, .inr (1, [.long 0, .int 1000, .int (-1), .int (-1), .int 0, .ref a13, .ref a14, .ref a15, .ref a16, .ref a17, .ref a18, .long 0, .ref a19])), (a19, .inl (G.2 1, 24, .inr (.inl (fun _ => 0)))), (a17, .inr (6, [.int 8, .int 5, .ref a20, .int 0]))]) [2, 3, 4] rfl
          have hDc := hD.sub (ws' := [(a1, .inr (1, [.long 0, .int 1000, .int (-1), .int (-1), .int 0, .ref a13, .ref a14, .ref a15, .ref a16, .ref a17, .ref a18, .long 0, .ref a19])), (a19, .inl (G.2 1, 24, .inr (.inl (fun _ => 0)))), (a17, .inr (6, [.int 8, .int 5, .ref a20, .int 0]))]) [2, 3, 4] (by decide) rfl
          have hFc := va_free (wc := [(a1, .inr (1, [.long 0, .int 1000, .int (-1), .int (-1), .int 0, .ref a13, .ref a14, .ref a15, .ref a16, .ref a17, .ref a18, .long 0, .ref a19])), (a19, .inl (G.2 1, 24, .inr (.inl (fun _ => 0)))), (a17, .inr (6, [.int 8, .int 5, .ref a20, .int 0]))]) hD hS hA [2, 3, 4] rfl
          refine va_calli (va_runV (As := [.int n0]) (rest := []) ⟨hx, hb, hml, hown, hts⟩ (kX1_isTaken l G a1 a13 a14 a15 a16 a17 a18 a19 a20 H.size n0 ⟨by omega, by omega⟩) (cwV 1 hts gV_X11_108 rfl rfl rfl hv_X1_isTaken ⟨Nat.le_of_ble_eq_true rfl, Nat.le_of_ble_eq_true rfl⟩) (g5_preV hPc hK hDc hN hT hS hFc (ci := 1) (q0 := 0) rfl rfl) rfl rfl hl.1 rfl (lv_room (Nat.le_of_ble_eq_true rfl)) dX11_wall_25 ⟨Nat.le_of_ble_eq_true rfl, Nat.le_of_ble_eq_true rfl⟩) hS (fun q _ h => hFc q h) hFc (fun r u t H1 locs ht hvm hw hB hz1 hk1 hS => ?_)
          obtain ⟨hP1, hD1⟩ := hB
          rw [ht] at hP1
          obtain ⟨i_15, rfl, rfl⟩ := hw
          obtain ⟨hP, hD⟩ := va_join (wr := [(a0, .inr (11, [.ref a1, .ref a2, .ref a3, .ref a4, .ref a5, .ref a6, .ref a7, .ref a8, .ref a9, .ref a10, .int 0, .int 0, .int (-1), .ref a11, .int 0, .ref a12, .int 0])), (a12, .inl (G.2 0, 5, .inl (fun _ => 0)))]) (w1 := [(a1, .inr (1, [.long 0, .int 1000, .int (-1), .int (-1), .int 0, .ref a13, .ref a14, .ref a15, .ref a16, .ref a17, .ref a18, .long 0, .ref a19])), (a19, .inl (G.2 1, 24, .inr (.inl (fun _ => 0)))), (a17, .inr (6, [.int 8, .int 5, .ref a20, .int 0]))]) hP hD [2, 3, 4] [0, 1] rfl rfl (by decide) (by decide) hk1 hFc hP1 hD1
          generalize H1 = H at hP hS ⊢
          have hP : va_P G.1 vwCl [(a0, .inr (11, [.ref a1, .ref a2, .ref a3, .ref a4, .ref a5, .ref a6, .ref a7, .ref a8, .ref a9, .ref a10, .int 0, .int 0, .int (-1), .ref a11, .int 0, .ref a12, .int 0])), (a12, .inl (G.2 0, 5, .inl (fun _ => 0))), (a1, .inr (1, [.long 0, .int 1000, .int (-1), .int (-1), .int 0, .ref a13, .ref a14, .ref a15, .ref a16, .ref a17, .ref a18, .long 0, .ref a19])), (a19, .inl (G.2 1, 24, .inr (.inl (fun _ => 0)))), (a17, .inr (6, [.int 8, .int 5, .ref a20, .int 0]))] H := hP
          have hD : va_D A [(a0, .inr (11, [.ref a1, .ref a2, .ref a3, .ref a4, .ref a5, .ref a6, .ref a7, .ref a8, .ref a9, .ref a10, .int 0, .int 0, .int (-1), .ref a11, .int 0, .ref a12, .int 0])), (a12, .inl (G.2 0, 5, .inl (fun _ => 0))), (a1, .inr (1, [.long 0, .int 1000, .int (-1), .int (-1), .int 0, .ref a13, .ref a14, .ref a15, .ref a16, .ref a17, .ref a18, .long 0, .ref a19])), (a19, .inl (G.2 1, 24, .inr (.inl (fun _ => 0)))), (a17, .inr (6, [.int 8, .int 5, .ref a20, .int 0]))] := hD
          refine lv_if_eq (tgt := 38) hx hb dX11_wall_28 (by decide) (fun c_16 => ?_) (fun c_16 => ?_)
          ·
            refine lv_aload_n hx hb dX11_wall_38 rfl (lv_at hl 0 rfl) ?_
            refine va_get (D := G.1) (ci := 11) (v := .ref a1) (C := RX11) (T := TX11) (N := 17) hx hb hts inG_X11 hown hK hP 0 rfl rfl 0 (by decide) (hts _ fl_X11_12) (fun _ h9 => h9) rfl dX11_wall_39 ?_
            refine va_get (D := G.1) (ci := 1) (v := .long 0) (C := RX1) (T := TX1) (N := 13) hx hb hts inG_X1 hown hK hP 2 rfl rfl 0 (by decide) (hts _ fl_X11_111) (fun _ h9 => h9) rfl dX11_wall_42 ?_
            refine lv_iload_n hx hb dX11_wall_45 rfl (lv_at hl 1 rfl) ?_
            have hPc := hP.sub (ws' := []) [] rfl
            have hDc := hD.sub (ws' := []) [] (by decide) rfl
            have hFc := va_free (wc := []) hD hS hA [] rfl
            refine va_calli (va_runS (As := [.long 0, .int n0]) (rest := []) ⟨hx, hb, hml, hown, hts⟩ (kX11_isOn_5 l G H.size n0 ⟨by omega, by omega⟩) (va_cwS 2 hts gS_X11_115 rfl rfl rfl hs_X11_isOn ⟨Nat.le_of_ble_eq_true rfl, Nat.le_of_ble_eq_true rfl⟩) (g5_preS hPc hK hDc hN hT hS hFc) rfl rfl hl.1 rfl (lv_room (Nat.le_of_ble_eq_true rfl)) dX11_wall_46 ⟨Nat.le_of_ble_eq_true rfl, Nat.le_of_ble_eq_true rfl⟩) hS (fun q _ h => hFc q h) hFc (fun r u t H1 locs ht hvm hw hB hz1 hk1 hS => ?_)
            obtain ⟨hP1, hD1⟩ := hB
            rw [ht] at hP1
            obtain ⟨rfl, rfl⟩ := hw
            have hP := g5_same hP hk1
            generalize H1 = H at hP hS ⊢
            refine lv_if_eq (tgt := 56) hx hb dX11_wall_49 (by decide) (fun c_17 => ?_) (fun c_17 => ?_)
            ·
              refine lv_iconst (v := 0) hx hb dX11_wall_56 (by decide) ?_
              refine lv_istore_n (lv' := [(3, .int 0), (0, .ref a0), (1, .int n0), (2, .int n1)]) hx hb dX11_wall_57 rfl hl (by decide) rfl (fun ls hl => ?_)
              refine lv_aload_n hx hb dX11_wall_58 rfl (lv_at hl 1 rfl) ?_
              refine va_get (D := G.1) (ci := 11) (v := .ref a1) (C := RX11) (T := TX11) (N := 17) hx hb hts inG_X11 hown hK hP 0 rfl rfl 0 (by decide) (hts _ fl_X11_12) (fun _ h9 => h9) rfl dX11_wall_59 ?_
              refine lv_iload_n hx hb dX11_wall_62 rfl (lv_at hl 3 rfl) ?_
              refine lv_iconst (v := 1) hx hb dX11_wall_63 (by decide) ?_
              refine lv_icmp_ne (tgt := 81) hx hb dX11_wall_64 (by decide) (fun c_18 => ?_) (fun c_18 => ?_)
              ·
                have i_18 : n1.toInt ≠ 1 := by have z := g5_ne (a := n1.toInt) (b := 1) (by rfl) (by decide) c_18; omega
                refine lv_aload_n hx hb dX11_wall_81 rfl (lv_at hl 1 rfl) ?_
                refine va_get (D := G.1) (ci := 11) (v := .ref a1) (C := RX11) (T := TX11) (N := 17) hx hb hts inG_X11 hown hK hP 0 rfl rfl 0 (by decide) (hts _ fl_X11_12) (fun _ h9 => h9) rfl dX11_wall_82 ?_
                refine va_get (D := G.1) (ci := 1) (v := .long 0) (C := RX1) (T := TX1) (N := 13) hx hb hts inG_X1 hown hK hP 2 rfl rfl 0 (by decide) (hts _ fl_X11_111) (fun _ h9 => h9) rfl dX11_wall_85 ?_
                refine lv_lconst (v := 1) hx hb dX11_wall_88 (by decide) ?_
                refine lv_iload_n hx hb dX11_wall_89 rfl (lv_at hl 2 rfl) ?_
                refine lv_lshl (v := ((1 : Int64) <<< (n0.toInt64 &&& 63))) hx hb dX11_wall_90 rfl ?_
                refine lv_ldc2 (v := (-1)) hx hb hown (hts _ kl_X11_119) dX11_wall_91 ?_
                refine lv_lxor hx hb dX11_wall_94 ?_
                refine lv_land hx hb dX11_wall_95 ?_
                refine g5_tl (v := 0) (by simp) ?_
                refine va_put (D := G.1) (ci := 1) (v := .long 0) (ty := .long) (C := RX1) (T := TX1) (N := 13) hx hb hts inG_X1 tyX1 tyX1_ok nmX1 hown hK hP hD hS 2 rfl rfl 0 (by decide) (hts _ fl_X11_111) (fun _ h9 => h9) rfl (by decide +kernel) rfl rfl (Nat.le_of_ble_eq_true rfl) dX11_wall_96 (fun H locs hP hD hS => ?_)
                have hP : va_P G.1 vwCl [(a0, .inr (11, [.ref a1, .ref a2, .ref a3, .ref a4, .ref a5, .ref a6, .ref a7, .ref a8, .ref a9, .ref a10, .int 0, .int 0, .int (-1), .ref a11, .int 0, .ref a12, .int 0])), (a12, .inl (G.2 0, 5, .inl (fun _ => 0))), (a1, .inr (1, [.long 0, .int 1000, .int (-1), .int (-1), .int 0, .ref a13, .ref a14, .ref a15, .ref a16, .ref a17, .ref a18, .long 0, .ref a19])), (a19, .inl (G.2 1, 24, .inr (.inl (fun _ => 0)))), (a17, .inr (6, [.int 8, .int 5, .ref a20, .int 0]))] H := hP
                have hD : va_D A [(a0, .inr (11, [.ref a1, .ref a2, .ref a3, .ref a4, .ref a5, .ref a6, .ref a7, .ref a8, .ref a9, .ref a10, .int 0, .int 0, .int (-1), .ref a11, .int 0, .ref a12, .int 0])), (a12, .inl (G.2 0, 5, .inl (fun _ => 0))), (a1, .inr (1, [.long 0, .int 1000, .int (-1), .int (-1), .int 0, .ref a13, .ref a14, .ref a15, .ref a16, .ref a17, .ref a18, .long 0, .ref a19])), (a19, .inl (G.2 1, 24, .inr (.inl (fun _ => 0)))), (a17, .inr (6, [.int 8, .int 5, .ref a20, .int 0]))] := hD
                refine lv_aload_n hx hb dX11_wall_99 rfl (lv_at hl 1 rfl) ?_
                refine lv_iload_n hx hb dX11_wall_100 rfl (lv_at hl 0 rfl) ?_
                have hPc := hP.sub (ws' := [(a0, .inr (11, [.ref a1, .ref a2, .ref a3, .ref a4, .ref a5, .ref a6, .ref a7, .ref a8, .ref a9, .ref a10, .int 0, .int 0, .int (-1), .ref a11, .int 0, .ref a12, .int 0]))]) [0] rfl
                have hDc := hD.sub (ws' := [(a0, .inr (11, [.ref a1, .ref a2, .ref a3, .ref a4, .ref a5, .ref a6, .ref a7, .ref a8, .ref a9, .ref a10, .int 0, .int 0, .int (-1), .ref a11, .int 0, .ref a12, .int 0]))]) [0] (by decide) rfl
                have hFc := va_free (wc := [(a0, .inr (11, [.ref a1, .ref a2, .ref a3, .ref a4, .ref a5, .ref a6, .ref a7, .ref a8, .ref a9, .ref a10, .int 0, .int 0, .int (-1), .ref a11, .int 0, .ref a12, .int 0]))]) hD hS hA [0] rfl
                refine va_calli (va_runV (As := [.int 0]) (rest := []) ⟨hx, hb, hml, hown, hts⟩ (kX11_done_2 l G a0 a1 a2 a3 a4 a5 a6 a7 a8 a9 a10 a11 a12 H.size) (cwV 1 hts gV_X11_121 rfl rfl rfl hv_X11_done ⟨Nat.le_of_ble_eq_true rfl, Nat.le_of_ble_eq_true rfl⟩) (g5_preV hPc hK hDc hN hT hS hFc (ci := 11) (q0 := 0) rfl rfl) rfl rfl hl.1 rfl (lv_room (Nat.le_of_ble_eq_true rfl)) dX11_wall_101 ⟨Nat.le_of_ble_eq_true rfl, Nat.le_of_ble_eq_true rfl⟩) hS (fun q _ h => hFc q h) hFc (fun r u t H1 locs ht hvm hw hB hz1 hk1 hS => ?_)
                obtain ⟨hP1, hD1⟩ := hB
                rw [ht] at hP1
                obtain ⟨rfl, rfl⟩ := hw
                obtain ⟨hP, hD⟩ := va_join (wr := [(a12, .inl (G.2 0, 5, .inl (fun _ => 0))), (a1, .inr (1, [.long 0, .int 1000, .int (-1), .int (-1), .int 0, .ref a13, .ref a14, .ref a15, .ref a16, .ref a17, .ref a18, .long 0, .ref a19])), (a19, .inl (G.2 1, 24, .inr (.inl (fun _ => 0)))), (a17, .inr (6, [.int 8, .int 5, .ref a20, .int 0]))]) (w1 := [(a0, .inr (11, [.ref a1, .ref a2, .ref a3, .ref a4, .ref a5, .ref a6, .ref a7, .ref a8, .ref a9, .ref a10, .int 0, .int 0, .int (-1), .ref a11, .int 0, .ref a12, .int 0]))]) hP hD [0] [1, 2, 3, 4] rfl rfl (by decide) (by decide) hk1 hFc hP1 hD1
                generalize H1 = H at hP hS ⊢
                have hP : va_P G.1 vwCl [(a12, .inl (G.2 0, 5, .inl (fun _ => 0))), (a1, .inr (1, [.long 0, .int 1000, .int (-1), .int (-1), .int 0, .ref a13, .ref a14, .ref a15, .ref a16, .ref a17, .ref a18, .long 0, .ref a19])), (a19, .inl (G.2 1, 24, .inr (.inl (fun _ => 0)))), (a17, .inr (6, [.int 8, .int 5, .ref a20, .int 0])), (a0, .inr (11, [.ref a1, .ref a2, .ref a3, .ref a4, .ref a5, .ref a6, .ref a7, .ref a8, .ref a9, .ref a10, .int 0, .int 0, .int (-1), .ref a11, .int 0, .ref a12, .int 0]))] H := hP
                have hD : va_D A [(a12, .inl (G.2 0, 5, .inl (fun _ => 0))), (a1, .inr (1, [.long 0, .int 1000, .int (-1), .int (-1), .int 0, .ref a13, .ref a14, .ref a15, .ref a16, .ref a17, .ref a18, .long 0, .ref a19])), (a19, .inl (G.2 1, 24, .inr (.inl (fun _ => 0)))), (a17, .inr (6, [.int 8, .int 5, .ref a20, .int 0])), (a0, .inr (11, [.ref a1, .ref a2, .ref a3, .ref a4, .ref a5, .ref a6, .ref a7, .ref a8, .ref a9, .ref a10, .int 0, .int 0, .int (-1), .ref a11, .int 0, .ref a12, .int 0]))] := hD
                have hP := hP.sub (ws' := []) [] rfl
                have hD := hD.sub (ws' := []) [] (by decide) rfl
                exact W.iret (v := 0) hx hb hr (fun t ht hW => ⟨⟨0, [], rfl, Or.inr (Or.inr (Or.inl (⟨i_4, i_5, i_9, i_15, i_18, rfl, rfl⟩))), by rw [ht]; exact hP, hD⟩, hS.F ht⟩) hS.2.2 dX11_wall_104
              ·
                have i_18 : n1.toInt = 1 := by have z := g5_neN (a := n1.toInt) (b := 1) (by rfl) (by decide) c_18; omega
                omega
            ·
              exact absurd c_17 (by decide)
          ·
            exact absurd c_16 (by decide)
        ·
          exact absurd c_14 (by decide)
      ·
        have hP := g5_same hP hk1
        generalize H1 = H at hP hS ⊢
        refine lv_if_ne (tgt := 20) hx hb dX11_wall_11 (by decide) (fun c_19 => ?_) (fun c_19 => ?_)
        ·
          exact absurd c_19 (by decide)
        ·
          refine lv_aload_n hx hb dX11_wall_14 rfl (lv_at hl 0 rfl) ?_
          refine lv_iconst (v := (-1)) hx hb dX11_wall_15 (by decide) ?_
          have hPc := hP.sub (ws' := [(a0, .inr (11, [.ref a1, .ref a2, .ref a3, .ref a4, .ref a5, .ref a6, .ref a7, .ref a8, .ref a9, .ref a10, .int 0, .int 0, .int (-1), .ref a11, .int 0, .ref a12, .int 0])), (a12, .inl (G.2 0, 5, .inl (fun _ => 0)))]) [0, 1] rfl
          have hDc := hD.sub (ws' := [(a0, .inr (11, [.ref a1, .ref a2, .ref a3, .ref a4, .ref a5, .ref a6, .ref a7, .ref a8, .ref a9, .ref a10, .int 0, .int 0, .int (-1), .ref a11, .int 0, .ref a12, .int 0])), (a12, .inl (G.2 0, 5, .inl (fun _ => 0)))]) [0, 1] (by decide) rfl
          have hFc := va_free (wc := [(a0, .inr (11, [.ref a1, .ref a2, .ref a3, .ref a4, .ref a5, .ref a6, .ref a7, .ref a8, .ref a9, .ref a10, .int 0, .int 0, .int (-1), .ref a11, .int 0, .ref a12, .int 0])), (a12, .inl (G.2 0, 5, .inl (fun _ => 0)))]) hD hS hA [0, 1] rfl
          refine va_calli (va_runV (As := [.int (-1)]) (rest := []) ⟨hx, hb, hml, hown, hts⟩ (kX11_refuse l G a0 a1 a2 a3 a4 a5 a6 a7 a8 a9 a10 a11 a12 H.size) (cwV 1 hts gV_X11_104 rfl rfl rfl hv_X11_refuse ⟨Nat.le_of_ble_eq_true rfl, Nat.le_of_ble_eq_true rfl⟩) (g5_preV hPc hK hDc hN hT hS hFc (ci := 11) (q0 := 0) rfl rfl) rfl rfl hl.1 rfl (lv_room (Nat.le_of_ble_eq_true rfl)) dX11_wall_16 ⟨Nat.le_of_ble_eq_true rfl, Nat.le_of_ble_eq_true rfl⟩) hS (fun q _ h => hFc q h) hFc (fun r u t H1 locs ht hvm hw hB hz1 hk1 hS => ?_)
          obtain ⟨hP1, hD1⟩ := hB
          rw [ht] at hP1
          obtain ⟨rfl, rfl⟩ := hw
          obtain ⟨hP, hD⟩ := va_join (wr := [(a1, .inr (1, [.long 0, .int 1000, .int (-1), .int (-1), .int 0, .ref a13, .ref a14, .ref a15, .ref a16, .ref a17, .ref a18, .long 0, .ref a19])), (a19, .inl (G.2 1, 24, .inr (.inl (fun _ => 0)))), (a17, .inr (6, [.int 8, .int 5, .ref a20, .int 0]))]) (w1 := [(a0, .inr (11, [.ref a1, .ref a2, .ref a3, .ref a4, .ref a5, .ref a6, .ref a7, .ref a8, .ref a9, .ref a10, .int 0, .int 0, .int (-1), .ref a11, .int 0, .ref a12, .int (-1)])), (a12, .inl (G.2 0, 5, .inl (upd (fun _ => 0) 0 1)))]) hP hD [0, 1] [2, 3, 4] rfl rfl (by decide) (by decide) hk1 hFc hP1 hD1
          generalize H1 = H at hP hS ⊢
          have hP : va_P G.1 vwCl [(a1, .inr (1, [.long 0, .int 1000, .int (-1), .int (-1), .int 0, .ref a13, .ref a14, .ref a15, .ref a16, .ref a17, .ref a18, .long 0, .ref a19])), (a19, .inl (G.2 1, 24, .inr (.inl (fun _ => 0)))), (a17, .inr (6, [.int 8, .int 5, .ref a20, .int 0])), (a0, .inr (11, [.ref a1, .ref a2, .ref a3, .ref a4, .ref a5, .ref a6, .ref a7, .ref a8, .ref a9, .ref a10, .int 0, .int 0, .int (-1), .ref a11, .int 0, .ref a12, .int (-1)])), (a12, .inl (G.2 0, 5, .inl (upd (fun _ => 0) 0 1)))] H := hP
          have hD : va_D A [(a1, .inr (1, [.long 0, .int 1000, .int (-1), .int (-1), .int 0, .ref a13, .ref a14, .ref a15, .ref a16, .ref a17, .ref a18, .long 0, .ref a19])), (a19, .inl (G.2 1, 24, .inr (.inl (fun _ => 0)))), (a17, .inr (6, [.int 8, .int 5, .ref a20, .int 0])), (a0, .inr (11, [.ref a1, .ref a2, .ref a3, .ref a4, .ref a5, .ref a6, .ref a7, .ref a8, .ref a9, .ref a10, .int 0, .int 0, .int (-1), .ref a11, .int 0, .ref a12, .int (-1)])), (a12, .inl (G.2 0, 5, .inl (upd (fun _ => 0) 0 1)))] := hD
          have hP := hP.sub (ws' := []) [] rfl
          have hD := hD.sub (ws' := []) [] (by decide) rfl
          exact W.iret (v := (-1)) hx hb hr (fun t ht hW => ⟨⟨(-1), [], rfl, Or.inr (Or.inr (Or.inr (Or.inl (⟨i_4, i_5, i_10, i_11, rfl, rfl⟩)))), by rw [ht]; exact hP, hD⟩, hS.F ht⟩) hS.2.2 dX11_wall_19
      ·
        have hP := g5_same hP hk1
        generalize H1 = H at hP hS ⊢
        refine lv_if_ne (tgt := 20) hx hb dX11_wall_11 (by decide) (fun c_20 => ?_) (fun c_20 => ?_)
        ·
          refine lv_aload_n hx hb dX11_wall_20 rfl (lv_at hl 0 rfl) ?_
          refine va_get (D := G.1) (ci := 11) (v := .ref a1) (C := RX11) (T := TX11) (N := 17) hx hb hts inG_X11 hown hK hP 0 rfl rfl 0 (by decide) (hts _ fl_X11_12) (fun _ h9 => h9) rfl dX11_wall_21 ?_
          refine lv_iload_n hx hb dX11_wall_24 rfl (lv_at hl 1 rfl) ?_
          have hPc := hP.sub (ws' := [(a1, .inr (1, [.long 0, .int 1000, .int (-1), .int (-1), .int 0, .ref a13, .ref a14, .ref a15, .ref a16, .ref a17, .ref a18, .long 0, .ref a19])), (a19, .inl (G.2 1, 24, .inr (.inl (fun _ => 0)))), (a17, .inr (6, [.int 8, .int 5, .ref a20, .int 0]))]) [2, 3, 4] rfl
          have hDc := hD.sub (ws' := [(a1, .inr (1, [.long 0, .int 1000, .int (-1), .int (-1), .int 0, .ref a13, .ref a14, .ref a15, .ref a16, .ref a17, .ref a18, .long 0, .ref a19])), (a19, .inl (G.2 1, 24, .inr (.inl (fun _ => 0)))), (a17, .inr (6, [.int 8, .int 5, .ref a20, .int 0]))]) [2, 3, 4] (by decide) rfl
          have hFc := va_free (wc := [(a1, .inr (1, [.long 0, .int 1000, .int (-1), .int (-1), .int 0, .ref a13, .ref a14, .ref a15, .ref a16, .ref a17, .ref a18, .long 0, .ref a19])), (a19, .inl (G.2 1, 24, .inr (.inl (fun _ => 0)))), (a17, .inr (6, [.int 8, .int 5, .ref a20, .int 0]))]) hD hS hA [2, 3, 4] rfl
          refine va_calli (va_runV (As := [.int n0]) (rest := []) ⟨hx, hb, hml, hown, hts⟩ (kX1_isTaken l G a1 a13 a14 a15 a16 a17 a18 a19 a20 H.size n0 ⟨by omega, by omega⟩) (cwV 1 hts gV_X11_108 rfl rfl rfl hv_X1_isTaken ⟨Nat.le_of_ble_eq_true rfl, Nat.le_of_ble_eq_true rfl⟩) (g5_preV hPc hK hDc hN hT hS hFc (ci := 1) (q0 := 0) rfl rfl) rfl rfl hl.1 rfl (lv_room (Nat.le_of_ble_eq_true rfl)) dX11_wall_25 ⟨Nat.le_of_ble_eq_true rfl, Nat.le_of_ble_eq_true rfl⟩) hS (fun q _ h => hFc q h) hFc (fun r u t H1 locs ht hvm hw hB hz1 hk1 hS => ?_)
          obtain ⟨hP1, hD1⟩ := hB
          rw [ht] at hP1
          obtain ⟨i_21, rfl, rfl⟩ := hw
          obtain ⟨hP, hD⟩ := va_join (wr := [(a0, .inr (11, [.ref a1, .ref a2, .ref a3, .ref a4, .ref a5, .ref a6, .ref a7, .ref a8, .ref a9, .ref a10, .int 0, .int 0, .int (-1), .ref a11, .int 0, .ref a12, .int 0])), (a12, .inl (G.2 0, 5, .inl (fun _ => 0)))]) (w1 := [(a1, .inr (1, [.long 0, .int 1000, .int (-1), .int (-1), .int 0, .ref a13, .ref a14, .ref a15, .ref a16, .ref a17, .ref a18, .long 0, .ref a19])), (a19, .inl (G.2 1, 24, .inr (.inl (fun _ => 0)))), (a17, .inr (6, [.int 8, .int 5, .ref a20, .int 0]))]) hP hD [2, 3, 4] [0, 1] rfl rfl (by decide) (by decide) hk1 hFc hP1 hD1
          generalize H1 = H at hP hS ⊢
          have hP : va_P G.1 vwCl [(a0, .inr (11, [.ref a1, .ref a2, .ref a3, .ref a4, .ref a5, .ref a6, .ref a7, .ref a8, .ref a9, .ref a10, .int 0, .int 0, .int (-1), .ref a11, .int 0, .ref a12, .int 0])), (a12, .inl (G.2 0, 5, .inl (fun _ => 0))), (a1, .inr (1, [.long 0, .int 1000, .int (-1), .int (-1), .int 0, .ref a13, .ref a14, .ref a15, .ref a16, .ref a17, .ref a18, .long 0, .ref a19])), (a19, .inl (G.2 1, 24, .inr (.inl (fun _ => 0)))), (a17, .inr (6, [.int 8, .int 5, .ref a20, .int 0]))] H := hP
          have hD : va_D A [(a0, .inr (11, [.ref a1, .ref a2, .ref a3, .ref a4, .ref a5, .ref a6, .ref a7, .ref a8, .ref a9, .ref a10, .int 0, .int 0, .int (-1), .ref a11, .int 0, .ref a12, .int 0])), (a12, .inl (G.2 0, 5, .inl (fun _ => 0))), (a1, .inr (1, [.long 0, .int 1000, .int (-1), .int (-1), .int 0, .ref a13, .ref a14, .ref a15, .ref a16, .ref a17, .ref a18, .long 0, .ref a19])), (a19, .inl (G.2 1, 24, .inr (.inl (fun _ => 0)))), (a17, .inr (6, [.int 8, .int 5, .ref a20, .int 0]))] := hD
          refine lv_if_eq (tgt := 38) hx hb dX11_wall_28 (by decide) (fun c_22 => ?_) (fun c_22 => ?_)
          ·
            refine lv_aload_n hx hb dX11_wall_38 rfl (lv_at hl 0 rfl) ?_
            refine va_get (D := G.1) (ci := 11) (v := .ref a1) (C := RX11) (T := TX11) (N := 17) hx hb hts inG_X11 hown hK hP 0 rfl rfl 0 (by decide) (hts _ fl_X11_12) (fun _ h9 => h9) rfl dX11_wall_39 ?_
            refine va_get (D := G.1) (ci := 1) (v := .long 0) (C := RX1) (T := TX1) (N := 13) hx hb hts inG_X1 hown hK hP 2 rfl rfl 0 (by decide) (hts _ fl_X11_111) (fun _ h9 => h9) rfl dX11_wall_42 ?_
            refine lv_iload_n hx hb dX11_wall_45 rfl (lv_at hl 1 rfl) ?_
            have hPc := hP.sub (ws' := []) [] rfl
            have hDc := hD.sub (ws' := []) [] (by decide) rfl
            have hFc := va_free (wc := []) hD hS hA [] rfl
            refine va_calli (va_runS (As := [.long 0, .int n0]) (rest := []) ⟨hx, hb, hml, hown, hts⟩ (kX11_isOn_5 l G H.size n0 ⟨by omega, by omega⟩) (va_cwS 2 hts gS_X11_115 rfl rfl rfl hs_X11_isOn ⟨Nat.le_of_ble_eq_true rfl, Nat.le_of_ble_eq_true rfl⟩) (g5_preS hPc hK hDc hN hT hS hFc) rfl rfl hl.1 rfl (lv_room (Nat.le_of_ble_eq_true rfl)) dX11_wall_46 ⟨Nat.le_of_ble_eq_true rfl, Nat.le_of_ble_eq_true rfl⟩) hS (fun q _ h => hFc q h) hFc (fun r u t H1 locs ht hvm hw hB hz1 hk1 hS => ?_)
            obtain ⟨hP1, hD1⟩ := hB
            rw [ht] at hP1
            obtain ⟨rfl, rfl⟩ := hw
            have hP := g5_same hP hk1
            generalize H1 = H at hP hS ⊢
            refine lv_if_eq (tgt := 56) hx hb dX11_wall_49 (by decide) (fun c_23 => ?_) (fun c_23 => ?_)
            ·
              refine lv_iconst (v := 0) hx hb dX11_wall_56 (by decide) ?_
              refine lv_istore_n (lv' := [(3, .int 0), (0, .ref a0), (1, .int n0), (2, .int n1)]) hx hb dX11_wall_57 rfl hl (by decide) rfl (fun ls hl => ?_)
              refine lv_aload_n hx hb dX11_wall_58 rfl (lv_at hl 1 rfl) ?_
              refine va_get (D := G.1) (ci := 11) (v := .ref a1) (C := RX11) (T := TX11) (N := 17) hx hb hts inG_X11 hown hK hP 0 rfl rfl 0 (by decide) (hts _ fl_X11_12) (fun _ h9 => h9) rfl dX11_wall_59 ?_
              refine lv_iload_n hx hb dX11_wall_62 rfl (lv_at hl 3 rfl) ?_
              refine lv_iconst (v := 1) hx hb dX11_wall_63 (by decide) ?_
              refine lv_icmp_ne (tgt := 81) hx hb dX11_wall_64 (by decide) (fun c_24 => ?_) (fun c_24 => ?_)
              ·
                have i_24 : n1.toInt ≠ 1 := by have z := g5_ne (a := n1.toInt) (b := 1) (by rfl) (by decide) c_24; omega
                omega
              ·
                have i_24 : n1.toInt = 1 := by have z := g5_neN (a := n1.toInt) (b := 1) (by rfl) (by decide) c_24; omega
                refine lv_aload_n hx hb dX11_wall_67 rfl (lv_at hl 1 rfl) ?_
                refine va_get (D := G.1) (ci := 11) (v := .ref a1) (C := RX11) (T := TX11) (N := 17) hx hb hts inG_X11 hown hK hP 0 rfl rfl 0 (by decide) (hts _ fl_X11_12) (fun _ h9 => h9) rfl dX11_wall_68 ?_
                refine va_get (D := G.1) (ci := 1) (v := .long 0) (C := RX1) (T := TX1) (N := 13) hx hb hts inG_X1 hown hK hP 2 rfl rfl 0 (by decide) (hts _ fl_X11_111) (fun _ h9 => h9) rfl dX11_wall_71 ?_
                refine lv_lconst (v := 1) hx hb dX11_wall_74 (by decide) ?_
                refine lv_iload_n hx hb dX11_wall_75 rfl (lv_at hl 2 rfl) ?_
                refine lv_lshl (v := ((1 : Int64) <<< (n0.toInt64 &&& 63))) hx hb dX11_wall_76 rfl ?_
                refine lv_lor hx hb dX11_wall_77 ?_
                refine g5_tl (v := ((1 : Int64) <<< (n0.toInt64 &&& 63))) (by simp) ?_
                refine lv_goto (tgt := 96) hx hb dX11_wall_78 (by decide) ?_
                refine va_put (D := G.1) (ci := 1) (v := .long ((1 : Int64) <<< (n0.toInt64 &&& 63))) (ty := .long) (C := RX1) (T := TX1) (N := 13) hx hb hts inG_X1 tyX1 tyX1_ok nmX1 hown hK hP hD hS 2 rfl rfl 0 (by decide) (hts _ fl_X11_111) (fun _ h9 => h9) rfl (by decide +kernel) rfl rfl (Nat.le_of_ble_eq_true rfl) dX11_wall_96 (fun H locs hP hD hS => ?_)
                have hP : va_P G.1 vwCl [(a0, .inr (11, [.ref a1, .ref a2, .ref a3, .ref a4, .ref a5, .ref a6, .ref a7, .ref a8, .ref a9, .ref a10, .int 0, .int 0, .int (-1), .ref a11, .int 0, .ref a12, .int 0])), (a12, .inl (G.2 0, 5, .inl (fun _ => 0))), (a1, .inr (1, [.long ((1 : Int64) <<< (n0.toInt64 &&& 63)), .int 1000, .int (-1), .int (-1), .int 0, .ref a13, .ref a14, .ref a15, .ref a16, .ref a17, .ref a18, .long 0, .ref a19])), (a19, .inl (G.2 1, 24, .inr (.inl (fun _ => 0)))), (a17, .inr (6, [.int 8, .int 5, .ref a20, .int 0]))] H := hP
                have hD : va_D A [(a0, .inr (11, [.ref a1, .ref a2, .ref a3, .ref a4, .ref a5, .ref a6, .ref a7, .ref a8, .ref a9, .ref a10, .int 0, .int 0, .int (-1), .ref a11, .int 0, .ref a12, .int 0])), (a12, .inl (G.2 0, 5, .inl (fun _ => 0))), (a1, .inr (1, [.long ((1 : Int64) <<< (n0.toInt64 &&& 63)), .int 1000, .int (-1), .int (-1), .int 0, .ref a13, .ref a14, .ref a15, .ref a16, .ref a17, .ref a18, .long 0, .ref a19])), (a19, .inl (G.2 1, 24, .inr (.inl (fun _ => 0)))), (a17, .inr (6, [.int 8, .int 5, .ref a20, .int 0]))] := hD
                refine lv_aload_n hx hb dX11_wall_99 rfl (lv_at hl 1 rfl) ?_
                refine lv_iload_n hx hb dX11_wall_100 rfl (lv_at hl 0 rfl) ?_
                have hPc := hP.sub (ws' := [(a0, .inr (11, [.ref a1, .ref a2, .ref a3, .ref a4, .ref a5, .ref a6, .ref a7, .ref a8, .ref a9, .ref a10, .int 0, .int 0, .int (-1), .ref a11, .int 0, .ref a12, .int 0]))]) [0] rfl
                have hDc := hD.sub (ws' := [(a0, .inr (11, [.ref a1, .ref a2, .ref a3, .ref a4, .ref a5, .ref a6, .ref a7, .ref a8, .ref a9, .ref a10, .int 0, .int 0, .int (-1), .ref a11, .int 0, .ref a12, .int 0]))]) [0] (by decide) rfl
                have hFc := va_free (wc := [(a0, .inr (11, [.ref a1, .ref a2, .ref a3, .ref a4, .ref a5, .ref a6, .ref a7, .ref a8, .ref a9, .ref a10, .int 0, .int 0, .int (-1), .ref a11, .int 0, .ref a12, .int 0]))]) hD hS hA [0] rfl
                refine va_calli (va_runV (As := [.int 0]) (rest := []) ⟨hx, hb, hml, hown, hts⟩ (kX11_done_2 l G a0 a1 a2 a3 a4 a5 a6 a7 a8 a9 a10 a11 a12 H.size) (cwV 1 hts gV_X11_121 rfl rfl rfl hv_X11_done ⟨Nat.le_of_ble_eq_true rfl, Nat.le_of_ble_eq_true rfl⟩) (g5_preV hPc hK hDc hN hT hS hFc (ci := 11) (q0 := 0) rfl rfl) rfl rfl hl.1 rfl (lv_room (Nat.le_of_ble_eq_true rfl)) dX11_wall_101 ⟨Nat.le_of_ble_eq_true rfl, Nat.le_of_ble_eq_true rfl⟩) hS (fun q _ h => hFc q h) hFc (fun r u t H1 locs ht hvm hw hB hz1 hk1 hS => ?_)
                obtain ⟨hP1, hD1⟩ := hB
                rw [ht] at hP1
                obtain ⟨rfl, rfl⟩ := hw
                obtain ⟨hP, hD⟩ := va_join (wr := [(a12, .inl (G.2 0, 5, .inl (fun _ => 0))), (a1, .inr (1, [.long ((1 : Int64) <<< (n0.toInt64 &&& 63)), .int 1000, .int (-1), .int (-1), .int 0, .ref a13, .ref a14, .ref a15, .ref a16, .ref a17, .ref a18, .long 0, .ref a19])), (a19, .inl (G.2 1, 24, .inr (.inl (fun _ => 0)))), (a17, .inr (6, [.int 8, .int 5, .ref a20, .int 0]))]) (w1 := [(a0, .inr (11, [.ref a1, .ref a2, .ref a3, .ref a4, .ref a5, .ref a6, .ref a7, .ref a8, .ref a9, .ref a10, .int 0, .int 0, .int (-1), .ref a11, .int 0, .ref a12, .int 0]))]) hP hD [0] [1, 2, 3, 4] rfl rfl (by decide) (by decide) hk1 hFc hP1 hD1
                generalize H1 = H at hP hS ⊢
                have hP : va_P G.1 vwCl [(a12, .inl (G.2 0, 5, .inl (fun _ => 0))), (a1, .inr (1, [.long ((1 : Int64) <<< (n0.toInt64 &&& 63)), .int 1000, .int (-1), .int (-1), .int 0, .ref a13, .ref a14, .ref a15, .ref a16, .ref a17, .ref a18, .long 0, .ref a19])), (a19, .inl (G.2 1, 24, .inr (.inl (fun _ => 0)))), (a17, .inr (6, [.int 8, .int 5, .ref a20, .int 0])), (a0, .inr (11, [.ref a1, .ref a2, .ref a3, .ref a4, .ref a5, .ref a6, .ref a7, .ref a8, .ref a9, .ref a10, .int 0, .int 0, .int (-1), .ref a11, .int 0, .ref a12, .int 0]))] H := hP
                have hD : va_D A [(a12, .inl (G.2 0, 5, .inl (fun _ => 0))), (a1, .inr (1, [.long ((1 : Int64) <<< (n0.toInt64 &&& 63)), .int 1000, .int (-1), .int (-1), .int 0, .ref a13, .ref a14, .ref a15, .ref a16, .ref a17, .ref a18, .long 0, .ref a19])), (a19, .inl (G.2 1, 24, .inr (.inl (fun _ => 0)))), (a17, .inr (6, [.int 8, .int 5, .ref a20, .int 0])), (a0, .inr (11, [.ref a1, .ref a2, .ref a3, .ref a4, .ref a5, .ref a6, .ref a7, .ref a8, .ref a9, .ref a10, .int 0, .int 0, .int (-1), .ref a11, .int 0, .ref a12, .int 0]))] := hD
                have hP := hP.sub (ws' := []) [] rfl
                have hD := hD.sub (ws' := []) [] (by decide) rfl
                exact W.iret (v := 0) hx hb hr (fun t ht hW => ⟨⟨0, [], rfl, Or.inr (Or.inr (Or.inr (Or.inr (⟨i_4, i_5, i_12, i_13, i_21, i_24, rfl, rfl⟩)))), by rw [ht]; exact hP, hD⟩, hS.F ht⟩) hS.2.2 dX11_wall_104
            ·
              exact absurd c_23 (by decide)
          ·
            exact absurd c_22 (by decide)
        ·
          exact absurd c_20 (by decide)
theorem dX11_isSort_0 : decode cX11_isSort 0 = .ok (.iload_n 0, 1) := by decide +kernel
theorem dX11_isSort_1 : decode cX11_isSort 1 = .ok (.ifCond .lt 13, 3) := by decide +kernel
theorem dX11_isSort_4 : decode cX11_isSort 4 = .ok (.iload_n 0, 1) := by decide +kernel
theorem dX11_isSort_5 : decode cX11_isSort 5 = .ok (.bipush 6, 2) := by decide +kernel
theorem dX11_isSort_7 : decode cX11_isSort 7 = .ok (.if_icmp .ge 7, 3) := by decide +kernel
theorem dX11_isSort_10 : decode cX11_isSort 10 = .ok (.iconst 1, 1) := by decide +kernel
theorem dX11_isSort_11 : decode cX11_isSort 11 = .ok (.goto 4, 3) := by decide +kernel
theorem dX11_isSort_14 : decode cX11_isSort 14 = .ok (.iconst 0, 1) := by decide +kernel
theorem dX11_isSort_15 : decode cX11_isSort 15 = .ok (.ireturn, 1) := by decide +kernel
set_option maxHeartbeats 4000000 in
set_option maxRecDepth 100000 in
theorem kX11_isSort (l : Launch) (G : g5_G) (sz : Nat) (n0 : Int32) : Met l yX11_isSort (wsG yX11_isSort cX11_isSort 1 (some .boolean)) ({ frames := 0, cells := 0, slots := 0, locals := 0 }) (va_Pc [.int n0] (g5_P G [] sz)) (va_Qi (fun (r : Int32) (u : va_W) => ((n0.toInt < 0) ∧ (r = 0) ∧ (u = [])) ∨ ((n0.toInt ≥ 0) ∧ (n0.toInt ≥ 6) ∧ (r = 0) ∧ (u = [])) ∨ ((n0.toInt ≥ 0) ∧ (n0.toInt < 6) ∧ (r = 1) ∧ (u = []))) (g5_B G (va_A [] sz)) (va_A [] sz)) 0 0 (va_A [] sz) := by
  refine Met.ofW (cc := cX11_isSort) (maxL := 1) (ret := (some .boolean)) (by decide) rfl ?_
  intro p e s m args below meth c s₁ B hml hv
  obtain ⟨rfl, hsz, hP, hK, hD0, hN, hT⟩ := hv
  have hx := B.exec
  have hb := B.bytes
  have hr := B.returns
  have hts : ∀ w ∈ tblG, w.before _ s = true := fun w h => atoms_spec (ws := (wsG yX11_isSort cX11_isSort 1 (some .boolean))) B.pre w (List.mem_cons_of_mem _ h)
  have hown : s.vm.findClass RX11 = some m.cls := findClass_of_methodNamed B.named
  have hlocks := B.notSynchronized
  subst hsz
  have hD := hD0.self (sz := s.heap.size)
  generalize hAe : va_A [] s.heap.size = A at hD hT ⊢
  have hA : ∀ q : Nat, s.heap.size ≤ q → A q := fun q h => by rw [← hAe]; exact Or.inr h
  have hS : va_S A s.heap s.heap [] := va_S.rf
  have hP : va_P G.1 vwCl [] s.heap := hP
  have hl := lv_entry ([.int n0]) (n := 1) (Nat.le_of_ble_eq_true rfl)
  rw [lg_entry_eq]
  generalize (lg_sl ([.int n0]) ++ List.replicate (1 - (lg_sl ([.int n0])).length) Slot.unset).toArray = ls at hl ⊢
  have hl : lv_has ls 1 [(0, .int n0)] := hl
  refine lv_iload_n hx hb dX11_isSort_0 rfl (lv_at hl 0 rfl) ?_
  refine lv_if_lt (tgt := 14) hx hb dX11_isSort_1 (by decide) (fun c_1 => ?_) (fun c_1 => ?_)
  ·
    have i_1 : n0.toInt < 0 := by have z := g5_lt (a := n0.toInt) (b := 0) (by rfl) (by decide) c_1; omega
    refine lv_iconst (v := 0) hx hb dX11_isSort_14 (by decide) ?_
    exact W.zret (v := 0) hx hb hr rfl (fun t ht hW => ⟨⟨0, [], rfl, Or.inl (⟨i_1, rfl, rfl⟩), by rw [ht]; exact hP, hD⟩, hS.F ht⟩) hS.2.2 dX11_isSort_15
  ·
    have i_1 : n0.toInt ≥ 0 := by have z := g5_ltN (a := n0.toInt) (b := 0) (by rfl) (by decide) c_1; omega
    refine lv_iload_n hx hb dX11_isSort_4 rfl (lv_at hl 0 rfl) ?_
    refine lv_bipush (v := 6) hx hb dX11_isSort_5 (by decide) ?_
    refine lv_icmp_ge (tgt := 14) hx hb dX11_isSort_7 (by decide) (fun c_2 => ?_) (fun c_2 => ?_)
    ·
      have i_2 : n0.toInt ≥ 6 := by have z := g5_ge (a := n0.toInt) (b := 6) (by rfl) (by decide) c_2; omega
      refine lv_iconst (v := 0) hx hb dX11_isSort_14 (by decide) ?_
      exact W.zret (v := 0) hx hb hr rfl (fun t ht hW => ⟨⟨0, [], rfl, Or.inr (Or.inl (⟨i_1, i_2, rfl, rfl⟩)), by rw [ht]; exact hP, hD⟩, hS.F ht⟩) hS.2.2 dX11_isSort_15
    ·
      have i_2 : n0.toInt < 6 := by have z := g5_geN (a := n0.toInt) (b := 6) (by rfl) (by decide) c_2; omega
      refine lv_iconst (v := 1) hx hb dX11_isSort_10 (by decide) ?_
      refine lv_goto (tgt := 15) hx hb dX11_isSort_11 (by decide) ?_
      exact W.zret (v := 1) hx hb hr rfl (fun t ht hW => ⟨⟨1, [], rfl, Or.inr (Or.inr (⟨i_1, i_2, rfl, rfl⟩)), by rw [ht]; exact hP, hD⟩, hS.F ht⟩) hS.2.2 dX11_isSort_15
theorem ml_X11_124 : Cond.methodLink RX11 124 yX11_isSort ∈ tblG := tg 535 (by decide +kernel) (by decide +kernel)
theorem st_X11_isSort : Cond.static yX11_isSort ∈ tblG := tg 536 (by decide +kernel) (by decide +kernel)
theorem cd_X11_isSort : Cond.code yX11_isSort cX11_isSort 1 (some .boolean) ∈ tblG := tg 537 (by decide +kernel) (by decide +kernel)
theorem gW_X11_isSort : GoodIn tblG (wsG yX11_isSort cX11_isSort 1 (some .boolean)) := tgi cd_X11_isSort
theorem gS_X11_124 : GoodIn tblG (va_wsS RX11 124 yX11_isSort (wsG yX11_isSort cX11_isSort 1 (some .boolean))) := tgS ml_X11_124 st_X11_isSort ini_X11 gW_X11_isSort
theorem hs_X11_isSort : yX11_isSort.cls ≠ "java/lang/invoke/MethodHandle" ∧ yX11_isSort.cls ≠ "java/lang/invoke/VarHandle" ∧ (parseMethodDescriptor yX11_isSort.desc).map (fun d => d.parameters.length) = some 1 := by decide +kernel
set_option maxHeartbeats 4000000 in
set_option maxRecDepth 100000 in
theorem kX11_isHour_2 (l : Launch) (G : g5_G) (sz : Nat) (n0 : Int32) : Met l yX11_isHour (wsG yX11_isHour cX11_isHour 1 (some .boolean)) ({ frames := 0, cells := 0, slots := 0, locals := 0 }) (va_Pc [.int n0] (g5_P G [] sz)) (va_Qi (fun (r : Int32) (u : va_W) => ((n0.toInt < 0) ∧ (r = 0) ∧ (u = [])) ∨ ((n0.toInt ≥ 0) ∧ (n0.toInt ≥ 24) ∧ (r = 0) ∧ (u = [])) ∨ ((n0.toInt ≥ 0) ∧ (n0.toInt < 24) ∧ (r = 1) ∧ (u = []))) (g5_B G (va_A [] sz)) (va_A [] sz)) 0 0 (va_A [] sz) := by
  refine Met.ofW (cc := cX11_isHour) (maxL := 1) (ret := (some .boolean)) (by decide) rfl ?_
  intro p e s m args below meth c s₁ B hml hv
  obtain ⟨rfl, hsz, hP, hK, hD0, hN, hT⟩ := hv
  have hx := B.exec
  have hb := B.bytes
  have hr := B.returns
  have hts : ∀ w ∈ tblG, w.before _ s = true := fun w h => atoms_spec (ws := (wsG yX11_isHour cX11_isHour 1 (some .boolean))) B.pre w (List.mem_cons_of_mem _ h)
  have hown : s.vm.findClass RX11 = some m.cls := findClass_of_methodNamed B.named
  have hlocks := B.notSynchronized
  subst hsz
  have hD := hD0.self (sz := s.heap.size)
  generalize hAe : va_A [] s.heap.size = A at hD hT ⊢
  have hA : ∀ q : Nat, s.heap.size ≤ q → A q := fun q h => by rw [← hAe]; exact Or.inr h
  have hS : va_S A s.heap s.heap [] := va_S.rf
  have hP : va_P G.1 vwCl [] s.heap := hP
  have hl := lv_entry ([.int n0]) (n := 1) (Nat.le_of_ble_eq_true rfl)
  rw [lg_entry_eq]
  generalize (lg_sl ([.int n0]) ++ List.replicate (1 - (lg_sl ([.int n0])).length) Slot.unset).toArray = ls at hl ⊢
  have hl : lv_has ls 1 [(0, .int n0)] := hl
  refine lv_iload_n hx hb dX11_isHour_0 rfl (lv_at hl 0 rfl) ?_
  refine lv_if_lt (tgt := 14) hx hb dX11_isHour_1 (by decide) (fun c_1 => ?_) (fun c_1 => ?_)
  ·
    have i_1 : n0.toInt < 0 := by have z := g5_lt (a := n0.toInt) (b := 0) (by rfl) (by decide) c_1; omega
    refine lv_iconst (v := 0) hx hb dX11_isHour_14 (by decide) ?_
    exact W.zret (v := 0) hx hb hr rfl (fun t ht hW => ⟨⟨0, [], rfl, Or.inl (⟨i_1, rfl, rfl⟩), by rw [ht]; exact hP, hD⟩, hS.F ht⟩) hS.2.2 dX11_isHour_15
  ·
    have i_1 : n0.toInt ≥ 0 := by have z := g5_ltN (a := n0.toInt) (b := 0) (by rfl) (by decide) c_1; omega
    refine lv_iload_n hx hb dX11_isHour_4 rfl (lv_at hl 0 rfl) ?_
    refine lv_bipush (v := 24) hx hb dX11_isHour_5 (by decide) ?_
    refine lv_icmp_ge (tgt := 14) hx hb dX11_isHour_7 (by decide) (fun c_2 => ?_) (fun c_2 => ?_)
    ·
      have i_2 : n0.toInt ≥ 24 := by have z := g5_ge (a := n0.toInt) (b := 24) (by rfl) (by decide) c_2; omega
      refine lv_iconst (v := 0) hx hb dX11_isHour_14 (by decide) ?_
      exact W.zret (v := 0) hx hb hr rfl (fun t ht hW => ⟨⟨0, [], rfl, Or.inr (Or.inl (⟨i_1, i_2, rfl, rfl⟩)), by rw [ht]; exact hP, hD⟩, hS.F ht⟩) hS.2.2 dX11_isHour_15
    ·
      have i_2 : n0.toInt < 24 := by have z := g5_geN (a := n0.toInt) (b := 24) (by rfl) (by decide) c_2; omega
      refine lv_iconst (v := 1) hx hb dX11_isHour_10 (by decide) ?_
      refine lv_goto (tgt := 15) hx hb dX11_isHour_11 (by decide) ?_
      exact W.zret (v := 1) hx hb hr rfl (fun t ht hW => ⟨⟨1, [], rfl, Or.inr (Or.inr (⟨i_1, i_2, rfl, rfl⟩)), by rw [ht]; exact hP, hD⟩, hS.F ht⟩) hS.2.2 dX11_isHour_15
theorem dX11_isDust_0 : decode cX11_isDust 0 = .ok (.iload_n 0, 1) := by decide +kernel
theorem dX11_isDust_1 : decode cX11_isDust 1 = .ok (.ifCond .lt 13, 3) := by decide +kernel
theorem dX11_isDust_4 : decode cX11_isDust 4 = .ok (.iload_n 0, 1) := by decide +kernel
theorem dX11_isDust_5 : decode cX11_isDust 5 = .ok (.bipush 10, 2) := by decide +kernel
theorem dX11_isDust_7 : decode cX11_isDust 7 = .ok (.if_icmp .gt 7, 3) := by decide +kernel
theorem dX11_isDust_10 : decode cX11_isDust 10 = .ok (.iconst 1, 1) := by decide +kernel
theorem dX11_isDust_11 : decode cX11_isDust 11 = .ok (.goto 4, 3) := by decide +kernel
theorem dX11_isDust_14 : decode cX11_isDust 14 = .ok (.iconst 0, 1) := by decide +kernel
theorem dX11_isDust_15 : decode cX11_isDust 15 = .ok (.ireturn, 1) := by decide +kernel
