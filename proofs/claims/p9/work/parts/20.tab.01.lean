set_option maxHeartbeats 4000000 in
set_option maxRecDepth 100000 in
theorem t_set_S (l : Launch) (G : g5_G) (a_t a_n : Nat) (sz : Nat) (e_n : Int32) (p_r : Int32) (p_c : Int32) (p_v : Int32) (f_n : Nat → Int32) (h_e_n : 0 ≤ e_n.toInt ∧ e_n.toInt ≤ 10) : Met l yX6_set (wsG yX6_set cX6_set 4 none) ({ frames := 1, cells := 0, slots := 0, locals := 21 }) (va_Pc [.ref a_t, .int p_r, .int p_c, .int p_v] (g5_P G [(a_t, (oc6 10 4 a_n e_n)), (a_n, (arI G 40 f_n))] sz)) (va_Qv (fun (u : va_W) => (∃ (o_f : Nat → Int32), (o_f = tset f_n e_n.toInt 4 p_r.toInt p_c.toInt p_v) ∧ (u = [(a_t, (oc6 10 4 a_n e_n)), (a_n, (arI G 40 o_f))]))) (g5_B G (va_A [(a_t, (oc6 10 4 a_n e_n)), (a_n, (arI G 40 f_n))] sz)) (va_A [(a_t, (oc6 10 4 a_n e_n)), (a_n, (arI G 40 f_n))] sz)) 0 0 (va_A [(a_t, (oc6 10 4 a_n e_n)), (a_n, (arI G 40 f_n))] sz) := by
  refine Met.ofW (cc := cX6_set) (maxL := 4) (ret := none) (by decide) rfl ?_
  intro p e s m args below meth c s₁ B hml hv
  obtain ⟨rfl, hsz, hP, hK, hD0, hN, hT⟩ := hv
  have hx := B.exec
  have hb := B.bytes
  have hr := B.returns
  have hts : ∀ w ∈ tblG, w.before _ s = true := fun w h => atoms_spec (ws := (wsG yX6_set cX6_set 4 none)) B.pre w (List.mem_cons_of_mem _ h)
  have hown : s.vm.findClass RX6 = some m.cls := findClass_of_methodNamed B.named
  have hlocks := B.notSynchronized
  subst hsz
  have hD := hD0.self (sz := s.heap.size)
  generalize hAe : va_A [(a_t, (oc6 10 4 a_n e_n)), (a_n, (arI G 40 f_n))] s.heap.size = A at hD hT ⊢
  have hA : ∀ q : Nat, s.heap.size ≤ q → A q := fun q h => by rw [← hAe]; exact Or.inr h
  have hS : va_S A s.heap s.heap [] := va_S.rf
  have hP : va_P G.1 vwCl [(a_t, (oc6 10 4 a_n e_n)), (a_n, (arI G 40 f_n))] s.heap := hP
  have hl := lv_entry ([.ref a_t, .int p_r, .int p_c, .int p_v]) (n := 4) (Nat.le_of_ble_eq_true rfl)
  rw [lg_entry_eq]
  generalize (lg_sl ([.ref a_t, .int p_r, .int p_c, .int p_v]) ++ List.replicate (4 - (lg_sl ([.ref a_t, .int p_r, .int p_c, .int p_v])).length) Slot.unset).toArray = ls at hl ⊢
  have hl : lv_has ls 4 [(0, .ref a_t), (1, .int p_r), (2, .int p_c), (3, .int p_v)] := hl
  refine lv_aload_n hx hb dX6_set_0 rfl (lv_at hl 0 rfl) ?_
  refine lv_iload_n hx hb dX6_set_1 rfl (lv_at hl 1 rfl) ?_
  obtain ⟨hPc, hDc, hFc⟩ := g5_sub3 (wc := [(a_t, (oc6 10 4 a_n e_n))]) hP hD hS hA [0] (by decide) rfl
  refine va_calli (va_runV (As := [.int p_r]) (rest := []) ⟨hx, hb, hml, hown, hts⟩ (t_has_S l G a_t a_n s.heap.size e_n p_r h_e_n) (cwV 1 hts gV_X6_25 rfl rfl rfl hv_X6_has ⟨Nat.le_of_ble_eq_true rfl, Nat.le_of_ble_eq_true rfl⟩) (g5_preV hPc hK hDc hN hT hS hFc (ci := 6) (q0 := 0) rfl rfl) rfl rfl hl.1 rfl (lv_room (Nat.le_of_ble_eq_true rfl)) dX6_set_2 ⟨Nat.le_of_ble_eq_true rfl, Nat.le_of_ble_eq_true rfl⟩) hS (fun q _ h => hFc q h) hFc (fun r u t H1 locs ht hvm hw hB hz1 hk1 hS => ?_)
  obtain ⟨hP1, hD1⟩ := hB
  rw [ht] at hP1
  rcases hw with ⟨i_1, rfl, rfl⟩ | ⟨i_2, rfl, rfl⟩
  ·
    have i_1 : 0 ≤ p_r.toInt ∧ p_r.toInt < e_n.toInt := i_1
    obtain ⟨hP, hD⟩ := va_join (wr := [(a_n, (arI G 40 f_n))]) hP hD [0] [1] rfl rfl (by decide) (by decide) hk1 hFc hP1 hD1
    generalize H1 = H at hP hS ⊢
    refine g5_rs [(a_n, (arI G 40 f_n)), (a_t, (oc6 10 4 a_n e_n))] hP hD (fun hP hD => ?_)
    refine lv_if_eq (tgt := 34) hx hb dX6_set_5 (by decide) (fun c_3 => ?_) (fun c_3 => ?_)
    ·
      exact absurd c_3 (by decide)
    ·
      refine lv_iload_n hx hb dX6_set_8 rfl (lv_at hl 2 rfl) ?_
      refine lv_if_lt (tgt := 34) hx hb dX6_set_9 (by decide) (fun c_4 => ?_) (fun c_4 => ?_)
      ·
        have i_4 : p_c.toInt < 0 := by have z := g5_lt (a := p_c.toInt) (b := 0) (by rfl) (by decide) c_4; omega
        exact W.vret hx hb hr (fun t ht hW => ⟨⟨[(a_t, (oc6 10 4 a_n e_n)), (a_n, (arI G 40 f_n))], rfl, ⟨f_n, qt_setN (by omega), rfl⟩, by rw [ht]; exact hP.sub [1, 0] rfl, hD.sub [1, 0] (by decide) rfl⟩, hS.F ht⟩) hS.2.2 dX6_set_34
      ·
        have i_4 : p_c.toInt ≥ 0 := by have z := g5_ltN (a := p_c.toInt) (b := 0) (by rfl) (by decide) c_4; omega
        refine lv_iload_n hx hb dX6_set_12 rfl (lv_at hl 2 rfl) ?_
        refine lv_aload_n hx hb dX6_set_13 rfl (lv_at hl 0 rfl) ?_
        refine va_get (D := G.1) (ci := 6) (v := .int 4) (C := RX6) (T := TX6) (N := 4) hx hb hts inG_X6 hown hK hP 1 rfl rfl 1 (by decide) (hts _ fl_X6_18) (fun _ h9 => h9) rfl dX6_set_14 ?_
        refine lv_icmp_ge (tgt := 34) hx hb dX6_set_17 (by decide) (fun c_5 => ?_) (fun c_5 => ?_)
        ·
          have i_5 : p_c.toInt ≥ 4 := by have z := g5_ge (a := p_c.toInt) (b := 4) (by rfl) (by decide) c_5; omega
          exact W.vret hx hb hr (fun t ht hW => ⟨⟨[(a_t, (oc6 10 4 a_n e_n)), (a_n, (arI G 40 f_n))], rfl, ⟨f_n, qt_setN (by omega), rfl⟩, by rw [ht]; exact hP.sub [1, 0] rfl, hD.sub [1, 0] (by decide) rfl⟩, hS.F ht⟩) hS.2.2 dX6_set_34
        ·
          have i_5 : p_c.toInt < 4 := by have z := g5_geN (a := p_c.toInt) (b := 4) (by rfl) (by decide) c_5; omega
          refine lv_aload_n hx hb dX6_set_20 rfl (lv_at hl 0 rfl) ?_
          refine va_get (D := G.1) (ci := 6) (v := .ref a_n) (C := RX6) (T := TX6) (N := 4) hx hb hts inG_X6 hown hK hP 1 rfl rfl 2 (by decide) (hts _ fl_X6_21) (fun _ h9 => h9) rfl dX6_set_21 ?_
          refine lv_iload_n hx hb dX6_set_24 rfl (lv_at hl 1 rfl) ?_
          refine lv_aload_n hx hb dX6_set_25 rfl (lv_at hl 0 rfl) ?_
          refine va_get (D := G.1) (ci := 6) (v := .int 4) (C := RX6) (T := TX6) (N := 4) hx hb hts inG_X6 hown hK hP 1 rfl rfl 1 (by decide) (hts _ fl_X6_18) (fun _ h9 => h9) rfl dX6_set_26 ?_
          refine lv_imul hx hb dX6_set_29 ?_
          have t_6 : (p_r * 4).toInt = p_r.toInt * 4 := g5_imul (a := p_r.toInt) (b := 4) (by rfl) (by decide) (by omega) (by omega)
          refine lv_iload_n hx hb dX6_set_30 rfl (lv_at hl 2 rfl) ?_
          refine lv_iadd hx hb dX6_set_31 ?_
          have t_7 : ((p_r * 4) + p_c).toInt = (p_r * 4).toInt + p_c.toInt := g5_iadd (a := (p_r * 4).toInt) (b := p_c.toInt) (by rfl) (by rfl) (by omega) (by omega)
          refine lv_iload_n hx hb dX6_set_32 rfl (lv_at hl 3 rfl) ?_
          refine va_iast hx hb hK hP hD hS 0 0 rfl rfl (i := ((p_r * 4) + p_c)) (x := p_v) (vp_in_iff.mpr ⟨by omega, by omega⟩) dX6_set_33 (fun H locs hP hD hS => ?_)
          refine g5_rs [(a_n, (arI G 40 (upd f_n ((p_r * 4) + p_c).toNatClampNeg p_v))), (a_t, (oc6 10 4 a_n e_n))] hP hD (fun hP hD => ?_)
          exact W.vret hx hb hr (fun t ht hW => ⟨⟨[(a_t, (oc6 10 4 a_n e_n)), (a_n, (arI G 40 (upd f_n ((p_r * 4) + p_c).toNatClampNeg p_v)))], rfl, ⟨(upd f_n ((p_r * 4) + p_c).toNatClampNeg p_v), qt_set (x := ((p_r * 4) + p_c)) (by omega) (by omega), rfl⟩, by rw [ht]; exact hP.sub [1, 0] rfl, hD.sub [1, 0] (by decide) rfl⟩, hS.F ht⟩) hS.2.2 dX6_set_34
  ·
    have i_2 : p_r.toInt < 0 ∨ e_n.toInt ≤ p_r.toInt := i_2
    obtain ⟨hP, hD⟩ := va_join (wr := [(a_n, (arI G 40 f_n))]) hP hD [0] [1] rfl rfl (by decide) (by decide) hk1 hFc hP1 hD1
    generalize H1 = H at hP hS ⊢
    refine g5_rs [(a_n, (arI G 40 f_n)), (a_t, (oc6 10 4 a_n e_n))] hP hD (fun hP hD => ?_)
    refine lv_if_eq (tgt := 34) hx hb dX6_set_5 (by decide) (fun c_8 => ?_) (fun c_8 => ?_)
    ·
      exact W.vret hx hb hr (fun t ht hW => ⟨⟨[(a_t, (oc6 10 4 a_n e_n)), (a_n, (arI G 40 f_n))], rfl, ⟨f_n, qt_setN (by omega), rfl⟩, by rw [ht]; exact hP.sub [1, 0] rfl, hD.sub [1, 0] (by decide) rfl⟩, hS.F ht⟩) hS.2.2 dX6_set_34
    ·
      exact absurd c_8 (by decide)
theorem dgX6_setLook_0 : ∀ r ∈ ([(0, (.aload_n 0, 1)), (1, (.iload_n 1, 1)), (2, (.iconst 0, 1)), (3, (.iload_n 2, 1)), (4, (.invokevirtual 29, 3)), (7, (.aload_n 0, 1)), (8, (.iload_n 1, 1)), (9, (.iconst 1, 1)), (10, (.iload_n 3, 1)), (11, (.invokevirtual 29, 3)), (14, (.aload_n 0, 1)), (15, (.iload_n 1, 1)), (16, (.iconst 2, 1)), (17, (.iload 4, 2)), (19, (.invokevirtual 29, 3)), (22, (.return_, 1))] : List (Nat × (Instr × Nat))), decode cX6_setLook r.1 = .ok r.2 := by decide +kernel
theorem dX6_setLook_0 : decode cX6_setLook 0 = .ok (.aload_n 0, 1) := dgX6_setLook_0 (0, (.aload_n 0, 1)) (List.mem_of_getElem? (i := 0) rfl)
theorem dX6_setLook_1 : decode cX6_setLook 1 = .ok (.iload_n 1, 1) := dgX6_setLook_0 (1, (.iload_n 1, 1)) (List.mem_of_getElem? (i := 1) rfl)
theorem dX6_setLook_2 : decode cX6_setLook 2 = .ok (.iconst 0, 1) := dgX6_setLook_0 (2, (.iconst 0, 1)) (List.mem_of_getElem? (i := 2) rfl)
theorem dX6_setLook_3 : decode cX6_setLook 3 = .ok (.iload_n 2, 1) := dgX6_setLook_0 (3, (.iload_n 2, 1)) (List.mem_of_getElem? (i := 3) rfl)
theorem dX6_setLook_4 : decode cX6_setLook 4 = .ok (.invokevirtual 29, 3) := dgX6_setLook_0 (4, (.invokevirtual 29, 3)) (List.mem_of_getElem? (i := 4) rfl)
theorem dX6_setLook_7 : decode cX6_setLook 7 = .ok (.aload_n 0, 1) := dgX6_setLook_0 (7, (.aload_n 0, 1)) (List.mem_of_getElem? (i := 5) rfl)
theorem dX6_setLook_8 : decode cX6_setLook 8 = .ok (.iload_n 1, 1) := dgX6_setLook_0 (8, (.iload_n 1, 1)) (List.mem_of_getElem? (i := 6) rfl)
theorem dX6_setLook_9 : decode cX6_setLook 9 = .ok (.iconst 1, 1) := dgX6_setLook_0 (9, (.iconst 1, 1)) (List.mem_of_getElem? (i := 7) rfl)
theorem dX6_setLook_10 : decode cX6_setLook 10 = .ok (.iload_n 3, 1) := dgX6_setLook_0 (10, (.iload_n 3, 1)) (List.mem_of_getElem? (i := 8) rfl)
theorem dX6_setLook_11 : decode cX6_setLook 11 = .ok (.invokevirtual 29, 3) := dgX6_setLook_0 (11, (.invokevirtual 29, 3)) (List.mem_of_getElem? (i := 9) rfl)
theorem dX6_setLook_14 : decode cX6_setLook 14 = .ok (.aload_n 0, 1) := dgX6_setLook_0 (14, (.aload_n 0, 1)) (List.mem_of_getElem? (i := 10) rfl)
theorem dX6_setLook_15 : decode cX6_setLook 15 = .ok (.iload_n 1, 1) := dgX6_setLook_0 (15, (.iload_n 1, 1)) (List.mem_of_getElem? (i := 11) rfl)
theorem dX6_setLook_16 : decode cX6_setLook 16 = .ok (.iconst 2, 1) := dgX6_setLook_0 (16, (.iconst 2, 1)) (List.mem_of_getElem? (i := 12) rfl)
theorem dX6_setLook_17 : decode cX6_setLook 17 = .ok (.iload 4, 2) := dgX6_setLook_0 (17, (.iload 4, 2)) (List.mem_of_getElem? (i := 13) rfl)
theorem dX6_setLook_19 : decode cX6_setLook 19 = .ok (.invokevirtual 29, 3) := dgX6_setLook_0 (19, (.invokevirtual 29, 3)) (List.mem_of_getElem? (i := 14) rfl)
theorem dX6_setLook_22 : decode cX6_setLook 22 = .ok (.return_, 1) := dgX6_setLook_0 (22, (.return_, 1)) (List.mem_of_getElem? (i := 15) rfl)
set_option maxHeartbeats 4000000 in
set_option maxRecDepth 100000 in
theorem t_setLook_S (l : Launch) (G : g5_G) (a_t a_n : Nat) (sz : Nat) (e_n : Int32) (p_r : Int32) (p_a : Int32) (p_b : Int32) (p_c : Int32) (f_n : Nat → Int32) (h_e_n : 0 ≤ e_n.toInt ∧ e_n.toInt ≤ 10) : Met l yX6_setLook (wsG yX6_setLook cX6_setLook 5 none) ({ frames := 2, cells := 0, slots := 0, locals := 44 }) (va_Pc [.ref a_t, .int p_r, .int p_a, .int p_b, .int p_c] (g5_P G [(a_t, (oc6 10 4 a_n e_n)), (a_n, (arI G 40 f_n))] sz)) (va_Qv (fun (u : va_W) => (∃ (o_f : Nat → Int32), (o_f = tset (tset (tset f_n e_n.toInt 4 p_r.toInt (0 : Int32).toInt p_a) e_n.toInt 4 p_r.toInt (1 : Int32).toInt p_b) e_n.toInt 4 p_r.toInt (2 : Int32).toInt p_c) ∧ (u = [(a_t, (oc6 10 4 a_n e_n)), (a_n, (arI G 40 o_f))]))) (g5_B G (va_A [(a_t, (oc6 10 4 a_n e_n)), (a_n, (arI G 40 f_n))] sz)) (va_A [(a_t, (oc6 10 4 a_n e_n)), (a_n, (arI G 40 f_n))] sz)) 0 0 (va_A [(a_t, (oc6 10 4 a_n e_n)), (a_n, (arI G 40 f_n))] sz) := by
  refine Met.ofW (cc := cX6_setLook) (maxL := 5) (ret := none) (by decide) rfl ?_
  intro p e s m args below meth c s₁ B hml hv
  obtain ⟨rfl, hsz, hP, hK, hD0, hN, hT⟩ := hv
  have hx := B.exec
  have hb := B.bytes
  have hr := B.returns
  have hts : ∀ w ∈ tblG, w.before _ s = true := fun w h => atoms_spec (ws := (wsG yX6_setLook cX6_setLook 5 none)) B.pre w (List.mem_cons_of_mem _ h)
  have hown : s.vm.findClass RX6 = some m.cls := findClass_of_methodNamed B.named
  have hlocks := B.notSynchronized
  subst hsz
  have hD := hD0.self (sz := s.heap.size)
  generalize hAe : va_A [(a_t, (oc6 10 4 a_n e_n)), (a_n, (arI G 40 f_n))] s.heap.size = A at hD hT ⊢
  have hA : ∀ q : Nat, s.heap.size ≤ q → A q := fun q h => by rw [← hAe]; exact Or.inr h
  have hS : va_S A s.heap s.heap [] := va_S.rf
  have hP : va_P G.1 vwCl [(a_t, (oc6 10 4 a_n e_n)), (a_n, (arI G 40 f_n))] s.heap := hP
  have hl := lv_entry ([.ref a_t, .int p_r, .int p_a, .int p_b, .int p_c]) (n := 5) (Nat.le_of_ble_eq_true rfl)
  rw [lg_entry_eq]
  generalize (lg_sl ([.ref a_t, .int p_r, .int p_a, .int p_b, .int p_c]) ++ List.replicate (5 - (lg_sl ([.ref a_t, .int p_r, .int p_a, .int p_b, .int p_c])).length) Slot.unset).toArray = ls at hl ⊢
  have hl : lv_has ls 5 [(0, .ref a_t), (1, .int p_r), (2, .int p_a), (3, .int p_b), (4, .int p_c)] := hl
  refine lv_aload_n hx hb dX6_setLook_0 rfl (lv_at hl 0 rfl) ?_
  refine lv_iload_n hx hb dX6_setLook_1 rfl (lv_at hl 1 rfl) ?_
  refine lv_iconst (v := 0) hx hb dX6_setLook_2 (by decide) ?_
  refine lv_iload_n hx hb dX6_setLook_3 rfl (lv_at hl 2 rfl) ?_
  obtain ⟨hPc, hDc, hFc⟩ := g5_sub3 (wc := [(a_t, (oc6 10 4 a_n e_n)), (a_n, (arI G 40 f_n))]) hP hD hS hA [0, 1] (by decide) rfl
  refine va_callv (va_runV (As := [.int p_r, .int 0, .int p_a]) (rest := []) ⟨hx, hb, hml, hown, hts⟩ (t_set_S l G a_t a_n s.heap.size e_n p_r 0 p_a f_n h_e_n) (cwV 3 hts gV_X6_29 rfl rfl rfl hv_X6_set ⟨Nat.le_of_ble_eq_true rfl, Nat.le_of_ble_eq_true rfl⟩) (g5_preV hPc hK hDc hN hT hS hFc (ci := 6) (q0 := 0) rfl rfl) rfl rfl hl.1 rfl (lv_room (Nat.le_of_ble_eq_true rfl)) dX6_setLook_4 ⟨Nat.le_of_ble_eq_true rfl, Nat.le_of_ble_eq_true rfl⟩) hS (fun q _ h => hFc q h) hFc (fun u t H1 locs ht hvm hw hB hz1 hk1 hS => ?_)
  obtain ⟨hP1, hD1⟩ := hB
  rw [ht] at hP1
  obtain ⟨z2, i_1, rfl⟩ := hw
  have i_1 : z2 = tset f_n e_n.toInt 4 p_r.toInt (0 : Int32).toInt p_a := i_1
  obtain ⟨hP, hD⟩ := va_join (wr := []) hP hD [0, 1] [] rfl rfl (by decide) (by decide) hk1 hFc hP1 hD1
  generalize H1 = H at hP hS ⊢
  refine g5_rs [(a_t, (oc6 10 4 a_n e_n)), (a_n, (arI G 40 z2))] hP hD (fun hP hD => ?_)
  refine lv_aload_n hx hb dX6_setLook_7 rfl (lv_at hl 0 rfl) ?_
  refine lv_iload_n hx hb dX6_setLook_8 rfl (lv_at hl 1 rfl) ?_
  refine lv_iconst (v := 1) hx hb dX6_setLook_9 (by decide) ?_
  refine lv_iload_n hx hb dX6_setLook_10 rfl (lv_at hl 3 rfl) ?_
  obtain ⟨hPc, hDc, hFc⟩ := g5_sub3 (wc := [(a_t, (oc6 10 4 a_n e_n)), (a_n, (arI G 40 z2))]) hP hD hS hA [0, 1] (by decide) rfl
  refine va_callv (va_runV (As := [.int p_r, .int 1, .int p_b]) (rest := []) ⟨hx, hb, hml, hown, hts⟩ (t_set_S l G a_t a_n H.size e_n p_r 1 p_b z2 h_e_n) (cwV 3 hts gV_X6_29 rfl rfl rfl hv_X6_set ⟨Nat.le_of_ble_eq_true rfl, Nat.le_of_ble_eq_true rfl⟩) (g5_preV hPc hK hDc hN hT hS hFc (ci := 6) (q0 := 0) rfl rfl) rfl rfl hl.1 rfl (lv_room (Nat.le_of_ble_eq_true rfl)) dX6_setLook_11 ⟨Nat.le_of_ble_eq_true rfl, Nat.le_of_ble_eq_true rfl⟩) hS (fun q _ h => hFc q h) hFc (fun u t H1 locs ht hvm hw hB hz1 hk1 hS => ?_)
  obtain ⟨hP1, hD1⟩ := hB
  rw [ht] at hP1
  obtain ⟨z4, i_3, rfl⟩ := hw
  have i_3 : z4 = tset z2 e_n.toInt 4 p_r.toInt (1 : Int32).toInt p_b := i_3
  obtain ⟨hP, hD⟩ := va_join (wr := []) hP hD [0, 1] [] rfl rfl (by decide) (by decide) hk1 hFc hP1 hD1
  generalize H1 = H at hP hS ⊢
  refine g5_rs [(a_t, (oc6 10 4 a_n e_n)), (a_n, (arI G 40 z4))] hP hD (fun hP hD => ?_)
  refine lv_aload_n hx hb dX6_setLook_14 rfl (lv_at hl 0 rfl) ?_
  refine lv_iload_n hx hb dX6_setLook_15 rfl (lv_at hl 1 rfl) ?_
  refine lv_iconst (v := 2) hx hb dX6_setLook_16 (by decide) ?_
  refine lv_iload hx hb dX6_setLook_17 (lv_at hl 4 rfl) ?_
  obtain ⟨hPc, hDc, hFc⟩ := g5_sub3 (wc := [(a_t, (oc6 10 4 a_n e_n)), (a_n, (arI G 40 z4))]) hP hD hS hA [0, 1] (by decide) rfl
  refine va_callv (va_runV (As := [.int p_r, .int 2, .int p_c]) (rest := []) ⟨hx, hb, hml, hown, hts⟩ (t_set_S l G a_t a_n H.size e_n p_r 2 p_c z4 h_e_n) (cwV 3 hts gV_X6_29 rfl rfl rfl hv_X6_set ⟨Nat.le_of_ble_eq_true rfl, Nat.le_of_ble_eq_true rfl⟩) (g5_preV hPc hK hDc hN hT hS hFc (ci := 6) (q0 := 0) rfl rfl) rfl rfl hl.1 rfl (lv_room (Nat.le_of_ble_eq_true rfl)) dX6_setLook_19 ⟨Nat.le_of_ble_eq_true rfl, Nat.le_of_ble_eq_true rfl⟩) hS (fun q _ h => hFc q h) hFc (fun u t H1 locs ht hvm hw hB hz1 hk1 hS => ?_)
  obtain ⟨hP1, hD1⟩ := hB
  rw [ht] at hP1
  obtain ⟨z6, i_5, rfl⟩ := hw
  have i_5 : z6 = tset z4 e_n.toInt 4 p_r.toInt (2 : Int32).toInt p_c := i_5
  obtain ⟨hP, hD⟩ := va_join (wr := []) hP hD [0, 1] [] rfl rfl (by decide) (by decide) hk1 hFc hP1 hD1
  generalize H1 = H at hP hS ⊢
  refine g5_rs [(a_t, (oc6 10 4 a_n e_n)), (a_n, (arI G 40 z6))] hP hD (fun hP hD => ?_)
  exact W.vret hx hb hr (fun t ht hW => ⟨⟨[(a_t, (oc6 10 4 a_n e_n)), (a_n, (arI G 40 z6))], rfl, ⟨z6, by rw [i_5, i_3, i_1], rfl⟩, by rw [ht]; exact hP.sub [0, 1] rfl, hD.sub [0, 1] (by decide) rfl⟩, hS.F ht⟩) hS.2.2 dX6_setLook_22
set_option maxHeartbeats 4000000 in
set_option maxRecDepth 100000 in
theorem t_open_S (l : Launch) (G : g5_G) (a_t a_n : Nat) (sz : Nat) (e_n : Int32) (p_v : Int32) (f_n : Nat → Int32) (h_e_n : 0 ≤ e_n.toInt ∧ e_n.toInt ≤ 10) : Met l yX6_open (wsG yX6_open cX6_open 4 (some .int)) ({ frames := 2, cells := 0, slots := 0, locals := 44 }) (va_Pc [.ref a_t, .int p_v] (g5_P G [(a_t, (oc6 10 4 a_n e_n)), (a_n, (arI G 40 f_n))] sz)) (va_Qi (fun (r : Int32) (u : va_W) => ((e_n.toInt = 10) ∧ (r = (-1)) ∧ (u = [(a_t, (oc6 10 4 a_n e_n)), (a_n, (arI G 40 f_n))])) ∨ (∃ (o_f : Nat → Int32), (e_n.toInt < 10) ∧ ((e_n + 1).toInt = e_n.toInt + 1) ∧ (o_f = tfil f_n e_n.toInt 4 p_v 4) ∧ (r = e_n) ∧ (u = [(a_t, (oc6 10 4 a_n (e_n + 1))), (a_n, (arI G 40 o_f))]))) (g5_B G (va_A [(a_t, (oc6 10 4 a_n e_n)), (a_n, (arI G 40 f_n))] sz)) (va_A [(a_t, (oc6 10 4 a_n e_n)), (a_n, (arI G 40 f_n))] sz)) 0 0 (va_A [(a_t, (oc6 10 4 a_n e_n)), (a_n, (arI G 40 f_n))] sz) := by
  refine Met.ofW (cc := cX6_open) (maxL := 4) (ret := (some .int)) (by decide) rfl ?_
  intro p e s m args below meth c s₁ B hml hv
  obtain ⟨rfl, hsz, hP, hK, hD0, hN, hT⟩ := hv
  have hx := B.exec
  have hb := B.bytes
  have hr := B.returns
  have hts : ∀ w ∈ tblG, w.before _ s = true := fun w h => atoms_spec (ws := (wsG yX6_open cX6_open 4 (some .int))) B.pre w (List.mem_cons_of_mem _ h)
  have hown : s.vm.findClass RX6 = some m.cls := findClass_of_methodNamed B.named
  have hlocks := B.notSynchronized
  subst hsz
  have hD := hD0.self (sz := s.heap.size)
  generalize hAe : va_A [(a_t, (oc6 10 4 a_n e_n)), (a_n, (arI G 40 f_n))] s.heap.size = A at hD hT ⊢
  have hA : ∀ q : Nat, s.heap.size ≤ q → A q := fun q h => by rw [← hAe]; exact Or.inr h
  have hS : va_S A s.heap s.heap [] := va_S.rf
  have hP : va_P G.1 vwCl [(a_t, (oc6 10 4 a_n e_n)), (a_n, (arI G 40 f_n))] s.heap := hP
  have hl := lv_entry ([.ref a_t, .int p_v]) (n := 4) (Nat.le_of_ble_eq_true rfl)
  rw [lg_entry_eq]
  generalize (lg_sl ([.ref a_t, .int p_v]) ++ List.replicate (4 - (lg_sl ([.ref a_t, .int p_v])).length) Slot.unset).toArray = ls at hl ⊢
  have hl : lv_has ls 4 [(0, .ref a_t), (1, .int p_v)] := hl
  refine lv_aload_n hx hb dX6_open_0 rfl (lv_at hl 0 rfl) ?_
  obtain ⟨hPc, hDc, hFc⟩ := g5_sub3 (wc := [(a_t, (oc6 10 4 a_n e_n))]) hP hD hS hA [0] (by decide) rfl
  refine va_calli (va_runV (As := []) (rest := []) ⟨hx, hb, hml, hown, hts⟩ (t_isFull_S l G a_t a_n s.heap.size e_n h_e_n) (cwV 0 hts gV_X6_33 rfl rfl rfl hv_X6_isFull ⟨Nat.le_of_ble_eq_true rfl, Nat.le_of_ble_eq_true rfl⟩) (g5_preV hPc hK hDc hN hT hS hFc (ci := 6) (q0 := 0) rfl rfl) rfl rfl hl.1 rfl (lv_room (Nat.le_of_ble_eq_true rfl)) dX6_open_1 ⟨Nat.le_of_ble_eq_true rfl, Nat.le_of_ble_eq_true rfl⟩) hS (fun q _ h => hFc q h) hFc (fun r u t H1 locs ht hvm hw hB hz1 hk1 hS => ?_)
  obtain ⟨hP1, hD1⟩ := hB
  rw [ht] at hP1
  rcases hw with ⟨i_1, rfl, rfl⟩ | ⟨i_2, rfl, rfl⟩
  ·
    have i_1 : e_n.toInt = 10 := i_1
    obtain ⟨hP, hD⟩ := va_join (wr := [(a_n, (arI G 40 f_n))]) hP hD [0] [1] rfl rfl (by decide) (by decide) hk1 hFc hP1 hD1
    generalize H1 = H at hP hS ⊢
    refine g5_rs [(a_n, (arI G 40 f_n)), (a_t, (oc6 10 4 a_n e_n))] hP hD (fun hP hD => ?_)
    refine lv_if_eq (tgt := 9) hx hb dX6_open_4 (by decide) (fun c_3 => ?_) (fun c_3 => ?_)
    ·
      exact absurd c_3 (by decide)
    ·
      refine lv_iconst (v := (-1)) hx hb dX6_open_7 (by decide) ?_
      exact W.iret (v := (-1)) hx hb hr (fun t ht hW => ⟨⟨(-1), [(a_t, (oc6 10 4 a_n e_n)), (a_n, (arI G 40 f_n))], rfl, Or.inl (⟨by omega, rfl, rfl⟩), by rw [ht]; exact hP.sub [1, 0] rfl, hD.sub [1, 0] (by decide) rfl⟩, hS.F ht⟩) hS.2.2 dX6_open_8
  ·
    have i_2 : e_n.toInt < 10 := i_2
    obtain ⟨hP, hD⟩ := va_join (wr := [(a_n, (arI G 40 f_n))]) hP hD [0] [1] rfl rfl (by decide) (by decide) hk1 hFc hP1 hD1
    generalize H1 = H at hP hS ⊢
    refine g5_rs [(a_n, (arI G 40 f_n)), (a_t, (oc6 10 4 a_n e_n))] hP hD (fun hP hD => ?_)
    refine lv_if_eq (tgt := 9) hx hb dX6_open_4 (by decide) (fun c_4 => ?_) (fun c_4 => ?_)
    ·
      refine lv_aload_n hx hb dX6_open_9 rfl (lv_at hl 0 rfl) ?_
      refine va_get (D := G.1) (ci := 6) (v := .int e_n) (C := RX6) (T := TX6) (N := 4) hx hb hts inG_X6 hown hK hP 1 rfl rfl 3 (by decide) (hts _ fl_X6_9) (fun _ h9 => h9) rfl dX6_open_10 ?_
      refine lv_istore_n (lv' := [(2, .int e_n), (0, .ref a_t), (1, .int p_v)]) hx hb dX6_open_13 rfl hl (by decide) rfl (fun ls hl => ?_)
      refine lv_aload_n hx hb dX6_open_14 rfl (lv_at hl 1 rfl) ?_
      refine lv_dup hx hb dX6_open_15 rfl ?_
      refine va_get (D := G.1) (ci := 6) (v := .int e_n) (C := RX6) (T := TX6) (N := 4) hx hb hts inG_X6 hown hK hP 1 rfl rfl 3 (by decide) (hts _ fl_X6_9) (fun _ h9 => h9) rfl dX6_open_16 ?_
      refine lv_iconst (v := 1) hx hb dX6_open_19 (by decide) ?_
      refine lv_iadd hx hb dX6_open_20 ?_
      have t_5 : (e_n + 1).toInt = e_n.toInt + 1 := g5_iadd (a := e_n.toInt) (b := 1) (by rfl) (by decide) (by omega) (by omega)
      refine va_put (D := G.1) (ci := 6) (v := .int (e_n + 1)) (ty := .int) (C := RX6) (T := TX6) (N := 4) hx hb hts inG_X6 tyX6 tyX6_ok nmX6 hown hK hP hD hS 1 rfl rfl 3 (by decide) (hts _ fl_X6_9) (fun _ h9 => h9) rfl (by decide +kernel) rfl rfl (Nat.le_of_ble_eq_true rfl) dX6_open_21 (fun H locs hP hD hS => ?_)
      refine g5_rs [(a_n, (arI G 40 f_n)), (a_t, (oc6 10 4 a_n (e_n + 1)))] hP hD (fun hP hD => ?_)
      refine lv_iconst (v := 0) hx hb dX6_open_24 (by decide) ?_
      refine lv_istore_n (lv' := [(3, .int 0), (2, .int e_n), (0, .ref a_t), (1, .int p_v)]) hx hb dX6_open_25 rfl hl (by decide) rfl (fun ls hl => ?_)
      refine g5_loop (α := (Int32) × (Nat → Int32)) (fun (q : (Int32) × (Nat → Int32)) (ls : Array Slot) (H : Heap) (locs : List Loc) => match q with | (k_c, k_f) => lv_has ls 4 [(3, .int k_c), (2, .int e_n), (0, .ref a_t), (1, .int p_v)] ∧ va_P G.1 vwCl [(a_n, (arI G 40 k_f)), (a_t, (oc6 10 4 a_n (e_n + 1)))] H ∧ va_D A [(a_n, (arI G 40 k_f)), (a_t, (oc6 10 4 a_n (e_n + 1)))] ∧ va_S A s.heap H locs ∧ (0 ≤ k_c.toInt ∧ k_c.toInt ≤ 4) ∧ (k_f = tfil f_n e_n.toInt 4 p_v k_c.toInt)) (fun (q : (Int32) × (Nat → Int32)) => match q with | (k_c, k_f) => Int.toNat (4 - k_c.toInt)) (0, f_n) ⟨lv_sub hl [0, 1, 2, 3] rfl, hP, hD, hS, ⟨by decide, by decide⟩, qt_fil0⟩ ?_
      rintro ⟨k_c, k_f⟩ ls H locs ⟨hl, hP, hD, hS, i_6, i_7⟩ ih_26_8
      have hl : lv_has ls 4 [(3, .int k_c), (2, .int e_n), (0, .ref a_t), (1, .int p_v)] := hl
      have i_6 : 0 ≤ k_c.toInt ∧ k_c.toInt ≤ 4 := i_6
      have i_7 : k_f = tfil f_n e_n.toInt 4 p_v k_c.toInt := i_7
      refine g5_rs [(a_n, (arI G 40 k_f)), (a_t, (oc6 10 4 a_n (e_n + 1)))] hP hD (fun hP hD => ?_)
      refine lv_iload_n hx hb dX6_open_26 rfl (lv_at hl 0 rfl) ?_
      refine lv_aload_n hx hb dX6_open_27 rfl (lv_at hl 2 rfl) ?_
      refine va_get (D := G.1) (ci := 6) (v := .int 4) (C := RX6) (T := TX6) (N := 4) hx hb hts inG_X6 hown hK hP 1 rfl rfl 1 (by decide) (hts _ fl_X6_18) (fun _ h9 => h9) rfl dX6_open_28 ?_
      refine lv_icmp_ge (tgt := 47) hx hb dX6_open_31 (by decide) (fun c_9 => ?_) (fun c_9 => ?_)
      ·
        have i_9 : k_c.toInt ≥ 4 := by have z := g5_ge (a := k_c.toInt) (b := 4) (by rfl) (by decide) c_9; omega
        refine lv_iload_n hx hb dX6_open_47 rfl (lv_at hl 1 rfl) ?_
        exact W.iret (v := e_n) hx hb hr (fun t ht hW => ⟨⟨e_n, [(a_t, (oc6 10 4 a_n (e_n + 1))), (a_n, (arI G 40 k_f))], rfl, Or.inr (⟨k_f, by omega, by omega, by rw [i_7, show k_c.toInt = 4 by omega], rfl, rfl⟩), by rw [ht]; exact hP.sub [1, 0] rfl, hD.sub [1, 0] (by decide) rfl⟩, hS.F ht⟩) hS.2.2 dX6_open_48
      ·
        have i_9 : k_c.toInt < 4 := by have z := g5_geN (a := k_c.toInt) (b := 4) (by rfl) (by decide) c_9; omega
        refine lv_aload_n hx hb dX6_open_34 rfl (lv_at hl 2 rfl) ?_
        refine lv_iload_n hx hb dX6_open_35 rfl (lv_at hl 1 rfl) ?_
        refine lv_iload_n hx hb dX6_open_36 rfl (lv_at hl 0 rfl) ?_
        refine lv_iload_n hx hb dX6_open_37 rfl (lv_at hl 3 rfl) ?_
        obtain ⟨hPc, hDc, hFc⟩ := g5_sub3 (wc := [(a_t, (oc6 10 4 a_n (e_n + 1))), (a_n, (arI G 40 k_f))]) hP hD hS hA [1, 0] (by decide) rfl
        refine va_callv (va_runV (As := [.int e_n, .int k_c, .int p_v]) (rest := []) ⟨hx, hb, hml, hown, hts⟩ (t_set_S l G a_t a_n H.size (e_n + 1) e_n k_c p_v k_f ⟨by omega, by omega⟩) (cwV 3 hts gV_X6_29 rfl rfl rfl hv_X6_set ⟨Nat.le_of_ble_eq_true rfl, Nat.le_of_ble_eq_true rfl⟩) (g5_preV hPc hK hDc hN hT hS hFc (ci := 6) (q0 := 0) rfl rfl) rfl rfl hl.1 rfl (lv_room (Nat.le_of_ble_eq_true rfl)) dX6_open_38 ⟨Nat.le_of_ble_eq_true rfl, Nat.le_of_ble_eq_true rfl⟩) hS (fun q _ h => hFc q h) hFc (fun u t H1 locs ht hvm hw hB hz1 hk1 hS => ?_)
        obtain ⟨hP1, hD1⟩ := hB
        rw [ht] at hP1
        obtain ⟨z11, i_10, rfl⟩ := hw
        have i_10 : z11 = tset k_f (e_n + 1).toInt 4 e_n.toInt k_c.toInt p_v := i_10
        obtain ⟨hP, hD⟩ := va_join (wr := []) hP hD [1, 0] [] rfl rfl (by decide) (by decide) hk1 hFc hP1 hD1
        generalize H1 = H at hP hS ⊢
        refine g5_rs [(a_t, (oc6 10 4 a_n (e_n + 1))), (a_n, (arI G 40 z11))] hP hD (fun hP hD => ?_)
        refine lv_iinc (v := (k_c + 1)) (lv' := [(3, .int (k_c + 1)), (2, .int e_n), (0, .ref a_t), (1, .int p_v)]) hx hb dX6_open_41 hl (k := 0) rfl rfl (by decide) rfl (fun ls hl => ?_)
        have t_12 : (k_c + 1).toInt = k_c.toInt + 1 := g5_iadd (a := k_c.toInt) (b := 1) rfl (by decide) (by omega) (by omega)
        refine lv_goto (tgt := 26) hx hb dX6_open_44 (by decide) ?_
        exact ih_26_8 ((k_c + 1), z11) ls H locs (show Int.toNat (4 - (k_c + 1).toInt) < Int.toNat (4 - k_c.toInt) from g_up (show k_c.toInt < (k_c + 1).toInt by omega) (show k_c.toInt < 4 by omega)) ⟨lv_sub hl [0, 1, 2, 3] rfl, hP.sub [1, 0] rfl, hD.sub [1, 0] (by decide) rfl, hS, ⟨by omega, by omega⟩, i_10.trans (qt_filS i_7 (by omega) (by omega) (by omega) (by omega) (by omega))⟩
    ·
      exact absurd c_4 (by decide)
set_option maxHeartbeats 4000000 in
set_option maxRecDepth 100000 in
theorem t_has_P (l : Launch) (G : g5_G) (a_t a_n : Nat) (sz : Nat) (e_n : Int32) (p_r : Int32) (h_e_n : 0 ≤ e_n.toInt ∧ e_n.toInt ≤ 8) : Met l yX6_has (wsG yX6_has cX6_has 2 (some .boolean)) ({ frames := 0, cells := 0, slots := 0, locals := 0 }) (va_Pc [.ref a_t, .int p_r] (g5_P G [(a_t, (oc6 8 5 a_n e_n))] sz)) (va_Qi (fun (r : Int32) (u : va_W) => ((0 ≤ p_r.toInt ∧ p_r.toInt < e_n.toInt) ∧ (r = 1) ∧ (u = [(a_t, (oc6 8 5 a_n e_n))])) ∨ ((p_r.toInt < 0 ∨ e_n.toInt ≤ p_r.toInt) ∧ (r = 0) ∧ (u = [(a_t, (oc6 8 5 a_n e_n))]))) (g5_B G (va_A [(a_t, (oc6 8 5 a_n e_n))] sz)) (va_A [(a_t, (oc6 8 5 a_n e_n))] sz)) 0 0 (va_A [(a_t, (oc6 8 5 a_n e_n))] sz) := by
  refine Met.ofW (cc := cX6_has) (maxL := 2) (ret := (some .boolean)) (by decide) rfl ?_
  intro p e s m args below meth c s₁ B hml hv
  obtain ⟨rfl, hsz, hP, hK, hD0, hN, hT⟩ := hv
  have hx := B.exec
  have hb := B.bytes
  have hr := B.returns
  have hts : ∀ w ∈ tblG, w.before _ s = true := fun w h => atoms_spec (ws := (wsG yX6_has cX6_has 2 (some .boolean))) B.pre w (List.mem_cons_of_mem _ h)
  have hown : s.vm.findClass RX6 = some m.cls := findClass_of_methodNamed B.named
  have hlocks := B.notSynchronized
  subst hsz
  have hD := hD0.self (sz := s.heap.size)
  generalize hAe : va_A [(a_t, (oc6 8 5 a_n e_n))] s.heap.size = A at hD hT ⊢
  have hA : ∀ q : Nat, s.heap.size ≤ q → A q := fun q h => by rw [← hAe]; exact Or.inr h
  have hS : va_S A s.heap s.heap [] := va_S.rf
  have hP : va_P G.1 vwCl [(a_t, (oc6 8 5 a_n e_n))] s.heap := hP
  have hl := lv_entry ([.ref a_t, .int p_r]) (n := 2) (Nat.le_of_ble_eq_true rfl)
  rw [lg_entry_eq]
  generalize (lg_sl ([.ref a_t, .int p_r]) ++ List.replicate (2 - (lg_sl ([.ref a_t, .int p_r])).length) Slot.unset).toArray = ls at hl ⊢
  have hl : lv_has ls 2 [(0, .ref a_t), (1, .int p_r)] := hl
  refine lv_iload_n hx hb dX6_has_0 rfl (lv_at hl 1 rfl) ?_
  refine lv_if_lt (tgt := 16) hx hb dX6_has_1 (by decide) (fun c_1 => ?_) (fun c_1 => ?_)
  ·
    have i_1 : p_r.toInt < 0 := by have z := g5_lt (a := p_r.toInt) (b := 0) (by rfl) (by decide) c_1; omega
    refine lv_iconst (v := 0) hx hb dX6_has_16 (by decide) ?_
    exact W.zret (v := 0) hx hb hr rfl (fun t ht hW => ⟨⟨0, [(a_t, (oc6 8 5 a_n e_n))], rfl, Or.inr (⟨by omega, rfl, rfl⟩), by rw [ht]; exact hP.sub [0] rfl, hD.sub [0] (by decide) rfl⟩, hS.F ht⟩) hS.2.2 dX6_has_17
  ·
    have i_1 : p_r.toInt ≥ 0 := by have z := g5_ltN (a := p_r.toInt) (b := 0) (by rfl) (by decide) c_1; omega
    refine lv_iload_n hx hb dX6_has_4 rfl (lv_at hl 1 rfl) ?_
    refine lv_aload_n hx hb dX6_has_5 rfl (lv_at hl 0 rfl) ?_
    refine va_get (D := G.1) (ci := 6) (v := .int e_n) (C := RX6) (T := TX6) (N := 4) hx hb hts inG_X6 hown hK hP 0 rfl rfl 3 (by decide) (hts _ fl_X6_9) (fun _ h9 => h9) rfl dX6_has_6 ?_
    refine lv_icmp_ge (tgt := 16) hx hb dX6_has_9 (by decide) (fun c_2 => ?_) (fun c_2 => ?_)
    ·
      have i_2 : p_r.toInt ≥ e_n.toInt := by have z := g5_ge (a := p_r.toInt) (b := e_n.toInt) (by rfl) (by rfl) c_2; omega
      refine lv_iconst (v := 0) hx hb dX6_has_16 (by decide) ?_
      exact W.zret (v := 0) hx hb hr rfl (fun t ht hW => ⟨⟨0, [(a_t, (oc6 8 5 a_n e_n))], rfl, Or.inr (⟨by omega, rfl, rfl⟩), by rw [ht]; exact hP.sub [0] rfl, hD.sub [0] (by decide) rfl⟩, hS.F ht⟩) hS.2.2 dX6_has_17
    ·
      have i_2 : p_r.toInt < e_n.toInt := by have z := g5_geN (a := p_r.toInt) (b := e_n.toInt) (by rfl) (by rfl) c_2; omega
      refine lv_iconst (v := 1) hx hb dX6_has_12 (by decide) ?_
      refine lv_goto (tgt := 17) hx hb dX6_has_13 (by decide) ?_
      exact W.zret (v := 1) hx hb hr rfl (fun t ht hW => ⟨⟨1, [(a_t, (oc6 8 5 a_n e_n))], rfl, Or.inl (⟨by omega, rfl, rfl⟩), by rw [ht]; exact hP.sub [0] rfl, hD.sub [0] (by decide) rfl⟩, hS.F ht⟩) hS.2.2 dX6_has_17
set_option maxHeartbeats 4000000 in
set_option maxRecDepth 100000 in
theorem t_isFull_P (l : Launch) (G : g5_G) (a_t a_n : Nat) (sz : Nat) (e_n : Int32) (h_e_n : 0 ≤ e_n.toInt ∧ e_n.toInt ≤ 8) : Met l yX6_isFull (wsG yX6_isFull cX6_isFull 1 (some .boolean)) ({ frames := 0, cells := 0, slots := 0, locals := 0 }) (va_Pc [.ref a_t] (g5_P G [(a_t, (oc6 8 5 a_n e_n))] sz)) (va_Qi (fun (r : Int32) (u : va_W) => ((e_n.toInt = 8) ∧ (r = 1) ∧ (u = [(a_t, (oc6 8 5 a_n e_n))])) ∨ ((e_n.toInt < 8) ∧ (r = 0) ∧ (u = [(a_t, (oc6 8 5 a_n e_n))]))) (g5_B G (va_A [(a_t, (oc6 8 5 a_n e_n))] sz)) (va_A [(a_t, (oc6 8 5 a_n e_n))] sz)) 0 0 (va_A [(a_t, (oc6 8 5 a_n e_n))] sz) := by
  refine Met.ofW (cc := cX6_isFull) (maxL := 1) (ret := (some .boolean)) (by decide) rfl ?_
  intro p e s m args below meth c s₁ B hml hv
  obtain ⟨rfl, hsz, hP, hK, hD0, hN, hT⟩ := hv
  have hx := B.exec
  have hb := B.bytes
  have hr := B.returns
  have hts : ∀ w ∈ tblG, w.before _ s = true := fun w h => atoms_spec (ws := (wsG yX6_isFull cX6_isFull 1 (some .boolean))) B.pre w (List.mem_cons_of_mem _ h)
  have hown : s.vm.findClass RX6 = some m.cls := findClass_of_methodNamed B.named
  have hlocks := B.notSynchronized
  subst hsz
  have hD := hD0.self (sz := s.heap.size)
  generalize hAe : va_A [(a_t, (oc6 8 5 a_n e_n))] s.heap.size = A at hD hT ⊢
  have hA : ∀ q : Nat, s.heap.size ≤ q → A q := fun q h => by rw [← hAe]; exact Or.inr h
  have hS : va_S A s.heap s.heap [] := va_S.rf
  have hP : va_P G.1 vwCl [(a_t, (oc6 8 5 a_n e_n))] s.heap := hP
  have hl := lv_entry ([.ref a_t]) (n := 1) (Nat.le_of_ble_eq_true rfl)
  rw [lg_entry_eq]
  generalize (lg_sl ([.ref a_t]) ++ List.replicate (1 - (lg_sl ([.ref a_t])).length) Slot.unset).toArray = ls at hl ⊢
  have hl : lv_has ls 1 [(0, .ref a_t)] := hl
  refine lv_aload_n hx hb dX6_isFull_0 rfl (lv_at hl 0 rfl) ?_
  refine va_get (D := G.1) (ci := 6) (v := .int e_n) (C := RX6) (T := TX6) (N := 4) hx hb hts inG_X6 hown hK hP 0 rfl rfl 3 (by decide) (hts _ fl_X6_9) (fun _ h9 => h9) rfl dX6_isFull_1 ?_
  refine lv_aload_n hx hb dX6_isFull_4 rfl (lv_at hl 0 rfl) ?_
  refine va_get (D := G.1) (ci := 6) (v := .int 8) (C := RX6) (T := TX6) (N := 4) hx hb hts inG_X6 hown hK hP 0 rfl rfl 0 (by decide) (hts _ fl_X6_15) (fun _ h9 => h9) rfl dX6_isFull_5 ?_
  refine lv_icmp_lt (tgt := 15) hx hb dX6_isFull_8 (by decide) (fun c_1 => ?_) (fun c_1 => ?_)
  ·
    have i_1 : e_n.toInt < 8 := by have z := g5_lt (a := e_n.toInt) (b := 8) (by rfl) (by decide) c_1; omega
    refine lv_iconst (v := 0) hx hb dX6_isFull_15 (by decide) ?_
    exact W.zret (v := 0) hx hb hr rfl (fun t ht hW => ⟨⟨0, [(a_t, (oc6 8 5 a_n e_n))], rfl, Or.inr (⟨by omega, rfl, rfl⟩), by rw [ht]; exact hP.sub [0] rfl, hD.sub [0] (by decide) rfl⟩, hS.F ht⟩) hS.2.2 dX6_isFull_16
  ·
    have i_1 : e_n.toInt ≥ 8 := by have z := g5_ltN (a := e_n.toInt) (b := 8) (by rfl) (by decide) c_1; omega
    refine lv_iconst (v := 1) hx hb dX6_isFull_11 (by decide) ?_
    refine lv_goto (tgt := 16) hx hb dX6_isFull_12 (by decide) ?_
    exact W.zret (v := 1) hx hb hr rfl (fun t ht hW => ⟨⟨1, [(a_t, (oc6 8 5 a_n e_n))], rfl, Or.inl (⟨by omega, rfl, rfl⟩), by rw [ht]; exact hP.sub [0] rfl, hD.sub [0] (by decide) rfl⟩, hS.F ht⟩) hS.2.2 dX6_isFull_16
set_option maxHeartbeats 4000000 in
set_option maxRecDepth 100000 in
theorem t_get_P (l : Launch) (G : g5_G) (a_t a_n : Nat) (sz : Nat) (e_n : Int32) (p_r : Int32) (p_c : Int32) (f_n : Nat → Int32) (h_e_n : 0 ≤ e_n.toInt ∧ e_n.toInt ≤ 8) : Met l yX6_get (wsG yX6_get cX6_get 3 (some .int)) ({ frames := 0, cells := 0, slots := 0, locals := 0 }) (va_Pc [.ref a_t, .int p_r, .int p_c] (g5_P G [(a_t, (oc6 8 5 a_n e_n)), (a_n, (arI G 40 f_n))] sz)) (va_Qi (fun (r : Int32) (u : va_W) => (∃ (o_r : Int32), (o_r = tget f_n e_n.toInt 5 p_r.toInt p_c.toInt) ∧ (r = o_r) ∧ (u = [(a_t, (oc6 8 5 a_n e_n)), (a_n, (arI G 40 f_n))]))) (g5_B G (va_A [(a_t, (oc6 8 5 a_n e_n)), (a_n, (arI G 40 f_n))] sz)) (va_A [(a_t, (oc6 8 5 a_n e_n)), (a_n, (arI G 40 f_n))] sz)) 0 0 (va_A [(a_t, (oc6 8 5 a_n e_n)), (a_n, (arI G 40 f_n))] sz) := by
  refine Met.ofW (cc := cX6_get) (maxL := 3) (ret := (some .int)) (by decide) rfl ?_
  intro p e s m args below meth c s₁ B hml hv
  obtain ⟨rfl, hsz, hP, hK, hD0, hN, hT⟩ := hv
  have hx := B.exec
  have hb := B.bytes
  have hr := B.returns
  have hts : ∀ w ∈ tblG, w.before _ s = true := fun w h => atoms_spec (ws := (wsG yX6_get cX6_get 3 (some .int))) B.pre w (List.mem_cons_of_mem _ h)
  have hown : s.vm.findClass RX6 = some m.cls := findClass_of_methodNamed B.named
  have hlocks := B.notSynchronized
  subst hsz
  have hD := hD0.self (sz := s.heap.size)
  generalize hAe : va_A [(a_t, (oc6 8 5 a_n e_n)), (a_n, (arI G 40 f_n))] s.heap.size = A at hD hT ⊢
  have hA : ∀ q : Nat, s.heap.size ≤ q → A q := fun q h => by rw [← hAe]; exact Or.inr h
  have hS : va_S A s.heap s.heap [] := va_S.rf
  have hP : va_P G.1 vwCl [(a_t, (oc6 8 5 a_n e_n)), (a_n, (arI G 40 f_n))] s.heap := hP
  have hl := lv_entry ([.ref a_t, .int p_r, .int p_c]) (n := 3) (Nat.le_of_ble_eq_true rfl)
  rw [lg_entry_eq]
  generalize (lg_sl ([.ref a_t, .int p_r, .int p_c]) ++ List.replicate (3 - (lg_sl ([.ref a_t, .int p_r, .int p_c])).length) Slot.unset).toArray = ls at hl ⊢
  have hl : lv_has ls 3 [(0, .ref a_t), (1, .int p_r), (2, .int p_c)] := hl
  refine lv_iload_n hx hb dX6_get_0 rfl (lv_at hl 1 rfl) ?_
  refine lv_if_lt (tgt := 24) hx hb dX6_get_1 (by decide) (fun c_1 => ?_) (fun c_1 => ?_)
  ·
    have i_1 : p_r.toInt < 0 := by have z := g5_lt (a := p_r.toInt) (b := 0) (by rfl) (by decide) c_1; omega
    refine lv_iconst (v := (-1)) hx hb dX6_get_24 (by decide) ?_
    exact W.iret (v := (-1)) hx hb hr (fun t ht hW => ⟨⟨(-1), [(a_t, (oc6 8 5 a_n e_n)), (a_n, (arI G 40 f_n))], rfl, ⟨(-1), qt_getN (by omega), rfl, rfl⟩, by rw [ht]; exact hP.sub [0, 1] rfl, hD.sub [0, 1] (by decide) rfl⟩, hS.F ht⟩) hS.2.2 dX6_get_25
  ·
    have i_1 : p_r.toInt ≥ 0 := by have z := g5_ltN (a := p_r.toInt) (b := 0) (by rfl) (by decide) c_1; omega
    refine lv_iload_n hx hb dX6_get_4 rfl (lv_at hl 1 rfl) ?_
    refine lv_aload_n hx hb dX6_get_5 rfl (lv_at hl 0 rfl) ?_
    refine va_get (D := G.1) (ci := 6) (v := .int e_n) (C := RX6) (T := TX6) (N := 4) hx hb hts inG_X6 hown hK hP 0 rfl rfl 3 (by decide) (hts _ fl_X6_9) (fun _ h9 => h9) rfl dX6_get_6 ?_
    refine lv_icmp_ge (tgt := 24) hx hb dX6_get_9 (by decide) (fun c_2 => ?_) (fun c_2 => ?_)
    ·
      have i_2 : p_r.toInt ≥ e_n.toInt := by have z := g5_ge (a := p_r.toInt) (b := e_n.toInt) (by rfl) (by rfl) c_2; omega
      refine lv_iconst (v := (-1)) hx hb dX6_get_24 (by decide) ?_
      exact W.iret (v := (-1)) hx hb hr (fun t ht hW => ⟨⟨(-1), [(a_t, (oc6 8 5 a_n e_n)), (a_n, (arI G 40 f_n))], rfl, ⟨(-1), qt_getN (by omega), rfl, rfl⟩, by rw [ht]; exact hP.sub [0, 1] rfl, hD.sub [0, 1] (by decide) rfl⟩, hS.F ht⟩) hS.2.2 dX6_get_25
    ·
      have i_2 : p_r.toInt < e_n.toInt := by have z := g5_geN (a := p_r.toInt) (b := e_n.toInt) (by rfl) (by rfl) c_2; omega
      refine lv_iload_n hx hb dX6_get_12 rfl (lv_at hl 2 rfl) ?_
      refine lv_if_lt (tgt := 24) hx hb dX6_get_13 (by decide) (fun c_3 => ?_) (fun c_3 => ?_)
      ·
        have i_3 : p_c.toInt < 0 := by have z := g5_lt (a := p_c.toInt) (b := 0) (by rfl) (by decide) c_3; omega
        refine lv_iconst (v := (-1)) hx hb dX6_get_24 (by decide) ?_
        exact W.iret (v := (-1)) hx hb hr (fun t ht hW => ⟨⟨(-1), [(a_t, (oc6 8 5 a_n e_n)), (a_n, (arI G 40 f_n))], rfl, ⟨(-1), qt_getN (by omega), rfl, rfl⟩, by rw [ht]; exact hP.sub [0, 1] rfl, hD.sub [0, 1] (by decide) rfl⟩, hS.F ht⟩) hS.2.2 dX6_get_25
      ·
        have i_3 : p_c.toInt ≥ 0 := by have z := g5_ltN (a := p_c.toInt) (b := 0) (by rfl) (by decide) c_3; omega
        refine lv_iload_n hx hb dX6_get_16 rfl (lv_at hl 2 rfl) ?_
        refine lv_aload_n hx hb dX6_get_17 rfl (lv_at hl 0 rfl) ?_
        refine va_get (D := G.1) (ci := 6) (v := .int 5) (C := RX6) (T := TX6) (N := 4) hx hb hts inG_X6 hown hK hP 0 rfl rfl 1 (by decide) (hts _ fl_X6_18) (fun _ h9 => h9) rfl dX6_get_18 ?_
        refine lv_icmp_lt (tgt := 26) hx hb dX6_get_21 (by decide) (fun c_4 => ?_) (fun c_4 => ?_)
        ·
          have i_4 : p_c.toInt < 5 := by have z := g5_lt (a := p_c.toInt) (b := 5) (by rfl) (by decide) c_4; omega
          refine lv_aload_n hx hb dX6_get_26 rfl (lv_at hl 0 rfl) ?_
          refine va_get (D := G.1) (ci := 6) (v := .ref a_n) (C := RX6) (T := TX6) (N := 4) hx hb hts inG_X6 hown hK hP 0 rfl rfl 2 (by decide) (hts _ fl_X6_21) (fun _ h9 => h9) rfl dX6_get_27 ?_
          refine lv_iload_n hx hb dX6_get_30 rfl (lv_at hl 1 rfl) ?_
          refine lv_aload_n hx hb dX6_get_31 rfl (lv_at hl 0 rfl) ?_
          refine va_get (D := G.1) (ci := 6) (v := .int 5) (C := RX6) (T := TX6) (N := 4) hx hb hts inG_X6 hown hK hP 0 rfl rfl 1 (by decide) (hts _ fl_X6_18) (fun _ h9 => h9) rfl dX6_get_32 ?_
          refine lv_imul hx hb dX6_get_35 ?_
          have t_5 : (p_r * 5).toInt = p_r.toInt * 5 := g5_imul (a := p_r.toInt) (b := 5) (by rfl) (by decide) (by omega) (by omega)
          refine lv_iload_n hx hb dX6_get_36 rfl (lv_at hl 2 rfl) ?_
          refine lv_iadd hx hb dX6_get_37 ?_
          have t_6 : ((p_r * 5) + p_c).toInt = (p_r * 5).toInt + p_c.toInt := g5_iadd (a := (p_r * 5).toInt) (b := p_c.toInt) (by rfl) (by rfl) (by omega) (by omega)
          refine va_iald hx hb hK hP 1 0 rfl rfl (i := ((p_r * 5) + p_c)) (vp_in_iff.mpr ⟨by omega, by omega⟩) dX6_get_38 ?_
          exact W.iret (v := (f_n ((p_r * 5) + p_c).toNatClampNeg)) hx hb hr (fun t ht hW => ⟨⟨(f_n ((p_r * 5) + p_c).toNatClampNeg), [(a_t, (oc6 8 5 a_n e_n)), (a_n, (arI G 40 f_n))], rfl, ⟨(f_n ((p_r * 5) + p_c).toNatClampNeg), qt_get (x := ((p_r * 5) + p_c)) (by omega) (by omega), rfl, rfl⟩, by rw [ht]; exact hP.sub [0, 1] rfl, hD.sub [0, 1] (by decide) rfl⟩, hS.F ht⟩) hS.2.2 dX6_get_39
        ·
          have i_4 : p_c.toInt ≥ 5 := by have z := g5_ltN (a := p_c.toInt) (b := 5) (by rfl) (by decide) c_4; omega
          refine lv_iconst (v := (-1)) hx hb dX6_get_24 (by decide) ?_
          exact W.iret (v := (-1)) hx hb hr (fun t ht hW => ⟨⟨(-1), [(a_t, (oc6 8 5 a_n e_n)), (a_n, (arI G 40 f_n))], rfl, ⟨(-1), qt_getN (by omega), rfl, rfl⟩, by rw [ht]; exact hP.sub [0, 1] rfl, hD.sub [0, 1] (by decide) rfl⟩, hS.F ht⟩) hS.2.2 dX6_get_25
set_option maxHeartbeats 4000000 in
set_option maxRecDepth 100000 in
theorem t_set_P (l : Launch) (G : g5_G) (a_t a_n : Nat) (sz : Nat) (e_n : Int32) (p_r : Int32) (p_c : Int32) (p_v : Int32) (f_n : Nat → Int32) (h_e_n : 0 ≤ e_n.toInt ∧ e_n.toInt ≤ 8) : Met l yX6_set (wsG yX6_set cX6_set 4 none) ({ frames := 1, cells := 0, slots := 0, locals := 21 }) (va_Pc [.ref a_t, .int p_r, .int p_c, .int p_v] (g5_P G [(a_t, (oc6 8 5 a_n e_n)), (a_n, (arI G 40 f_n))] sz)) (va_Qv (fun (u : va_W) => (∃ (o_f : Nat → Int32), (o_f = tset f_n e_n.toInt 5 p_r.toInt p_c.toInt p_v) ∧ (u = [(a_t, (oc6 8 5 a_n e_n)), (a_n, (arI G 40 o_f))]))) (g5_B G (va_A [(a_t, (oc6 8 5 a_n e_n)), (a_n, (arI G 40 f_n))] sz)) (va_A [(a_t, (oc6 8 5 a_n e_n)), (a_n, (arI G 40 f_n))] sz)) 0 0 (va_A [(a_t, (oc6 8 5 a_n e_n)), (a_n, (arI G 40 f_n))] sz) := by
  refine Met.ofW (cc := cX6_set) (maxL := 4) (ret := none) (by decide) rfl ?_
  intro p e s m args below meth c s₁ B hml hv
  obtain ⟨rfl, hsz, hP, hK, hD0, hN, hT⟩ := hv
  have hx := B.exec
  have hb := B.bytes
  have hr := B.returns
  have hts : ∀ w ∈ tblG, w.before _ s = true := fun w h => atoms_spec (ws := (wsG yX6_set cX6_set 4 none)) B.pre w (List.mem_cons_of_mem _ h)
  have hown : s.vm.findClass RX6 = some m.cls := findClass_of_methodNamed B.named
  have hlocks := B.notSynchronized
  subst hsz
  have hD := hD0.self (sz := s.heap.size)
  generalize hAe : va_A [(a_t, (oc6 8 5 a_n e_n)), (a_n, (arI G 40 f_n))] s.heap.size = A at hD hT ⊢
  have hA : ∀ q : Nat, s.heap.size ≤ q → A q := fun q h => by rw [← hAe]; exact Or.inr h
  have hS : va_S A s.heap s.heap [] := va_S.rf
  have hP : va_P G.1 vwCl [(a_t, (oc6 8 5 a_n e_n)), (a_n, (arI G 40 f_n))] s.heap := hP
  have hl := lv_entry ([.ref a_t, .int p_r, .int p_c, .int p_v]) (n := 4) (Nat.le_of_ble_eq_true rfl)
  rw [lg_entry_eq]
  generalize (lg_sl ([.ref a_t, .int p_r, .int p_c, .int p_v]) ++ List.replicate (4 - (lg_sl ([.ref a_t, .int p_r, .int p_c, .int p_v])).length) Slot.unset).toArray = ls at hl ⊢
  have hl : lv_has ls 4 [(0, .ref a_t), (1, .int p_r), (2, .int p_c), (3, .int p_v)] := hl
  refine lv_aload_n hx hb dX6_set_0 rfl (lv_at hl 0 rfl) ?_
  refine lv_iload_n hx hb dX6_set_1 rfl (lv_at hl 1 rfl) ?_
  obtain ⟨hPc, hDc, hFc⟩ := g5_sub3 (wc := [(a_t, (oc6 8 5 a_n e_n))]) hP hD hS hA [0] (by decide) rfl
  refine va_calli (va_runV (As := [.int p_r]) (rest := []) ⟨hx, hb, hml, hown, hts⟩ (t_has_P l G a_t a_n s.heap.size e_n p_r h_e_n) (cwV 1 hts gV_X6_25 rfl rfl rfl hv_X6_has ⟨Nat.le_of_ble_eq_true rfl, Nat.le_of_ble_eq_true rfl⟩) (g5_preV hPc hK hDc hN hT hS hFc (ci := 6) (q0 := 0) rfl rfl) rfl rfl hl.1 rfl (lv_room (Nat.le_of_ble_eq_true rfl)) dX6_set_2 ⟨Nat.le_of_ble_eq_true rfl, Nat.le_of_ble_eq_true rfl⟩) hS (fun q _ h => hFc q h) hFc (fun r u t H1 locs ht hvm hw hB hz1 hk1 hS => ?_)
  obtain ⟨hP1, hD1⟩ := hB
  rw [ht] at hP1
  rcases hw with ⟨i_1, rfl, rfl⟩ | ⟨i_2, rfl, rfl⟩
  ·
    have i_1 : 0 ≤ p_r.toInt ∧ p_r.toInt < e_n.toInt := i_1
    obtain ⟨hP, hD⟩ := va_join (wr := [(a_n, (arI G 40 f_n))]) hP hD [0] [1] rfl rfl (by decide) (by decide) hk1 hFc hP1 hD1
    generalize H1 = H at hP hS ⊢
    refine g5_rs [(a_n, (arI G 40 f_n)), (a_t, (oc6 8 5 a_n e_n))] hP hD (fun hP hD => ?_)
    refine lv_if_eq (tgt := 34) hx hb dX6_set_5 (by decide) (fun c_3 => ?_) (fun c_3 => ?_)
    ·
      exact absurd c_3 (by decide)
    ·
      refine lv_iload_n hx hb dX6_set_8 rfl (lv_at hl 2 rfl) ?_
      refine lv_if_lt (tgt := 34) hx hb dX6_set_9 (by decide) (fun c_4 => ?_) (fun c_4 => ?_)
      ·
        have i_4 : p_c.toInt < 0 := by have z := g5_lt (a := p_c.toInt) (b := 0) (by rfl) (by decide) c_4; omega
        exact W.vret hx hb hr (fun t ht hW => ⟨⟨[(a_t, (oc6 8 5 a_n e_n)), (a_n, (arI G 40 f_n))], rfl, ⟨f_n, qt_setN (by omega), rfl⟩, by rw [ht]; exact hP.sub [1, 0] rfl, hD.sub [1, 0] (by decide) rfl⟩, hS.F ht⟩) hS.2.2 dX6_set_34
      ·
        have i_4 : p_c.toInt ≥ 0 := by have z := g5_ltN (a := p_c.toInt) (b := 0) (by rfl) (by decide) c_4; omega
        refine lv_iload_n hx hb dX6_set_12 rfl (lv_at hl 2 rfl) ?_
        refine lv_aload_n hx hb dX6_set_13 rfl (lv_at hl 0 rfl) ?_
        refine va_get (D := G.1) (ci := 6) (v := .int 5) (C := RX6) (T := TX6) (N := 4) hx hb hts inG_X6 hown hK hP 1 rfl rfl 1 (by decide) (hts _ fl_X6_18) (fun _ h9 => h9) rfl dX6_set_14 ?_
        refine lv_icmp_ge (tgt := 34) hx hb dX6_set_17 (by decide) (fun c_5 => ?_) (fun c_5 => ?_)
        ·
          have i_5 : p_c.toInt ≥ 5 := by have z := g5_ge (a := p_c.toInt) (b := 5) (by rfl) (by decide) c_5; omega
          exact W.vret hx hb hr (fun t ht hW => ⟨⟨[(a_t, (oc6 8 5 a_n e_n)), (a_n, (arI G 40 f_n))], rfl, ⟨f_n, qt_setN (by omega), rfl⟩, by rw [ht]; exact hP.sub [1, 0] rfl, hD.sub [1, 0] (by decide) rfl⟩, hS.F ht⟩) hS.2.2 dX6_set_34
        ·
          have i_5 : p_c.toInt < 5 := by have z := g5_geN (a := p_c.toInt) (b := 5) (by rfl) (by decide) c_5; omega
          refine lv_aload_n hx hb dX6_set_20 rfl (lv_at hl 0 rfl) ?_
          refine va_get (D := G.1) (ci := 6) (v := .ref a_n) (C := RX6) (T := TX6) (N := 4) hx hb hts inG_X6 hown hK hP 1 rfl rfl 2 (by decide) (hts _ fl_X6_21) (fun _ h9 => h9) rfl dX6_set_21 ?_
          refine lv_iload_n hx hb dX6_set_24 rfl (lv_at hl 1 rfl) ?_
          refine lv_aload_n hx hb dX6_set_25 rfl (lv_at hl 0 rfl) ?_
          refine va_get (D := G.1) (ci := 6) (v := .int 5) (C := RX6) (T := TX6) (N := 4) hx hb hts inG_X6 hown hK hP 1 rfl rfl 1 (by decide) (hts _ fl_X6_18) (fun _ h9 => h9) rfl dX6_set_26 ?_
          refine lv_imul hx hb dX6_set_29 ?_
          have t_6 : (p_r * 5).toInt = p_r.toInt * 5 := g5_imul (a := p_r.toInt) (b := 5) (by rfl) (by decide) (by omega) (by omega)
          refine lv_iload_n hx hb dX6_set_30 rfl (lv_at hl 2 rfl) ?_
          refine lv_iadd hx hb dX6_set_31 ?_
          have t_7 : ((p_r * 5) + p_c).toInt = (p_r * 5).toInt + p_c.toInt := g5_iadd (a := (p_r * 5).toInt) (b := p_c.toInt) (by rfl) (by rfl) (by omega) (by omega)
          refine lv_iload_n hx hb dX6_set_32 rfl (lv_at hl 3 rfl) ?_
          refine va_iast hx hb hK hP hD hS 0 0 rfl rfl (i := ((p_r * 5) + p_c)) (x := p_v) (vp_in_iff.mpr ⟨by omega, by omega⟩) dX6_set_33 (fun H locs hP hD hS => ?_)
          refine g5_rs [(a_n, (arI G 40 (upd f_n ((p_r * 5) + p_c).toNatClampNeg p_v))), (a_t, (oc6 8 5 a_n e_n))] hP hD (fun hP hD => ?_)
          exact W.vret hx hb hr (fun t ht hW => ⟨⟨[(a_t, (oc6 8 5 a_n e_n)), (a_n, (arI G 40 (upd f_n ((p_r * 5) + p_c).toNatClampNeg p_v)))], rfl, ⟨(upd f_n ((p_r * 5) + p_c).toNatClampNeg p_v), qt_set (x := ((p_r * 5) + p_c)) (by omega) (by omega), rfl⟩, by rw [ht]; exact hP.sub [1, 0] rfl, hD.sub [1, 0] (by decide) rfl⟩, hS.F ht⟩) hS.2.2 dX6_set_34
  ·
    have i_2 : p_r.toInt < 0 ∨ e_n.toInt ≤ p_r.toInt := i_2
    obtain ⟨hP, hD⟩ := va_join (wr := [(a_n, (arI G 40 f_n))]) hP hD [0] [1] rfl rfl (by decide) (by decide) hk1 hFc hP1 hD1
    generalize H1 = H at hP hS ⊢
    refine g5_rs [(a_n, (arI G 40 f_n)), (a_t, (oc6 8 5 a_n e_n))] hP hD (fun hP hD => ?_)
    refine lv_if_eq (tgt := 34) hx hb dX6_set_5 (by decide) (fun c_8 => ?_) (fun c_8 => ?_)
    ·
      exact W.vret hx hb hr (fun t ht hW => ⟨⟨[(a_t, (oc6 8 5 a_n e_n)), (a_n, (arI G 40 f_n))], rfl, ⟨f_n, qt_setN (by omega), rfl⟩, by rw [ht]; exact hP.sub [1, 0] rfl, hD.sub [1, 0] (by decide) rfl⟩, hS.F ht⟩) hS.2.2 dX6_set_34
    ·
      exact absurd c_8 (by decide)
set_option maxHeartbeats 4000000 in
set_option maxRecDepth 100000 in
theorem t_open_P (l : Launch) (G : g5_G) (a_t a_n : Nat) (sz : Nat) (e_n : Int32) (p_v : Int32) (f_n : Nat → Int32) (h_e_n : 0 ≤ e_n.toInt ∧ e_n.toInt ≤ 8) : Met l yX6_open (wsG yX6_open cX6_open 4 (some .int)) ({ frames := 2, cells := 0, slots := 0, locals := 44 }) (va_Pc [.ref a_t, .int p_v] (g5_P G [(a_t, (oc6 8 5 a_n e_n)), (a_n, (arI G 40 f_n))] sz)) (va_Qi (fun (r : Int32) (u : va_W) => ((e_n.toInt = 8) ∧ (r = (-1)) ∧ (u = [(a_t, (oc6 8 5 a_n e_n)), (a_n, (arI G 40 f_n))])) ∨ (∃ (o_f : Nat → Int32), (e_n.toInt < 8) ∧ ((e_n + 1).toInt = e_n.toInt + 1) ∧ (o_f = tfil f_n e_n.toInt 5 p_v 5) ∧ (r = e_n) ∧ (u = [(a_t, (oc6 8 5 a_n (e_n + 1))), (a_n, (arI G 40 o_f))]))) (g5_B G (va_A [(a_t, (oc6 8 5 a_n e_n)), (a_n, (arI G 40 f_n))] sz)) (va_A [(a_t, (oc6 8 5 a_n e_n)), (a_n, (arI G 40 f_n))] sz)) 0 0 (va_A [(a_t, (oc6 8 5 a_n e_n)), (a_n, (arI G 40 f_n))] sz) := by
  refine Met.ofW (cc := cX6_open) (maxL := 4) (ret := (some .int)) (by decide) rfl ?_
  intro p e s m args below meth c s₁ B hml hv
  obtain ⟨rfl, hsz, hP, hK, hD0, hN, hT⟩ := hv
  have hx := B.exec
  have hb := B.bytes
  have hr := B.returns
  have hts : ∀ w ∈ tblG, w.before _ s = true := fun w h => atoms_spec (ws := (wsG yX6_open cX6_open 4 (some .int))) B.pre w (List.mem_cons_of_mem _ h)
  have hown : s.vm.findClass RX6 = some m.cls := findClass_of_methodNamed B.named
  have hlocks := B.notSynchronized
  subst hsz
  have hD := hD0.self (sz := s.heap.size)
  generalize hAe : va_A [(a_t, (oc6 8 5 a_n e_n)), (a_n, (arI G 40 f_n))] s.heap.size = A at hD hT ⊢
  have hA : ∀ q : Nat, s.heap.size ≤ q → A q := fun q h => by rw [← hAe]; exact Or.inr h
  have hS : va_S A s.heap s.heap [] := va_S.rf
  have hP : va_P G.1 vwCl [(a_t, (oc6 8 5 a_n e_n)), (a_n, (arI G 40 f_n))] s.heap := hP
  have hl := lv_entry ([.ref a_t, .int p_v]) (n := 4) (Nat.le_of_ble_eq_true rfl)
  rw [lg_entry_eq]
  generalize (lg_sl ([.ref a_t, .int p_v]) ++ List.replicate (4 - (lg_sl ([.ref a_t, .int p_v])).length) Slot.unset).toArray = ls at hl ⊢
  have hl : lv_has ls 4 [(0, .ref a_t), (1, .int p_v)] := hl
  refine lv_aload_n hx hb dX6_open_0 rfl (lv_at hl 0 rfl) ?_
  obtain ⟨hPc, hDc, hFc⟩ := g5_sub3 (wc := [(a_t, (oc6 8 5 a_n e_n))]) hP hD hS hA [0] (by decide) rfl
  refine va_calli (va_runV (As := []) (rest := []) ⟨hx, hb, hml, hown, hts⟩ (t_isFull_P l G a_t a_n s.heap.size e_n h_e_n) (cwV 0 hts gV_X6_33 rfl rfl rfl hv_X6_isFull ⟨Nat.le_of_ble_eq_true rfl, Nat.le_of_ble_eq_true rfl⟩) (g5_preV hPc hK hDc hN hT hS hFc (ci := 6) (q0 := 0) rfl rfl) rfl rfl hl.1 rfl (lv_room (Nat.le_of_ble_eq_true rfl)) dX6_open_1 ⟨Nat.le_of_ble_eq_true rfl, Nat.le_of_ble_eq_true rfl⟩) hS (fun q _ h => hFc q h) hFc (fun r u t H1 locs ht hvm hw hB hz1 hk1 hS => ?_)
  obtain ⟨hP1, hD1⟩ := hB
  rw [ht] at hP1
  rcases hw with ⟨i_1, rfl, rfl⟩ | ⟨i_2, rfl, rfl⟩
  ·
    have i_1 : e_n.toInt = 8 := i_1
    obtain ⟨hP, hD⟩ := va_join (wr := [(a_n, (arI G 40 f_n))]) hP hD [0] [1] rfl rfl (by decide) (by decide) hk1 hFc hP1 hD1
    generalize H1 = H at hP hS ⊢
    refine g5_rs [(a_n, (arI G 40 f_n)), (a_t, (oc6 8 5 a_n e_n))] hP hD (fun hP hD => ?_)
    refine lv_if_eq (tgt := 9) hx hb dX6_open_4 (by decide) (fun c_3 => ?_) (fun c_3 => ?_)
    ·
      exact absurd c_3 (by decide)
    ·
      refine lv_iconst (v := (-1)) hx hb dX6_open_7 (by decide) ?_
      exact W.iret (v := (-1)) hx hb hr (fun t ht hW => ⟨⟨(-1), [(a_t, (oc6 8 5 a_n e_n)), (a_n, (arI G 40 f_n))], rfl, Or.inl (⟨by omega, rfl, rfl⟩), by rw [ht]; exact hP.sub [1, 0] rfl, hD.sub [1, 0] (by decide) rfl⟩, hS.F ht⟩) hS.2.2 dX6_open_8
  ·
    have i_2 : e_n.toInt < 8 := i_2
    obtain ⟨hP, hD⟩ := va_join (wr := [(a_n, (arI G 40 f_n))]) hP hD [0] [1] rfl rfl (by decide) (by decide) hk1 hFc hP1 hD1
    generalize H1 = H at hP hS ⊢
    refine g5_rs [(a_n, (arI G 40 f_n)), (a_t, (oc6 8 5 a_n e_n))] hP hD (fun hP hD => ?_)
    refine lv_if_eq (tgt := 9) hx hb dX6_open_4 (by decide) (fun c_4 => ?_) (fun c_4 => ?_)
    ·
      refine lv_aload_n hx hb dX6_open_9 rfl (lv_at hl 0 rfl) ?_
      refine va_get (D := G.1) (ci := 6) (v := .int e_n) (C := RX6) (T := TX6) (N := 4) hx hb hts inG_X6 hown hK hP 1 rfl rfl 3 (by decide) (hts _ fl_X6_9) (fun _ h9 => h9) rfl dX6_open_10 ?_
      refine lv_istore_n (lv' := [(2, .int e_n), (0, .ref a_t), (1, .int p_v)]) hx hb dX6_open_13 rfl hl (by decide) rfl (fun ls hl => ?_)
      refine lv_aload_n hx hb dX6_open_14 rfl (lv_at hl 1 rfl) ?_
      refine lv_dup hx hb dX6_open_15 rfl ?_
      refine va_get (D := G.1) (ci := 6) (v := .int e_n) (C := RX6) (T := TX6) (N := 4) hx hb hts inG_X6 hown hK hP 1 rfl rfl 3 (by decide) (hts _ fl_X6_9) (fun _ h9 => h9) rfl dX6_open_16 ?_
      refine lv_iconst (v := 1) hx hb dX6_open_19 (by decide) ?_
      refine lv_iadd hx hb dX6_open_20 ?_
      have t_5 : (e_n + 1).toInt = e_n.toInt + 1 := g5_iadd (a := e_n.toInt) (b := 1) (by rfl) (by decide) (by omega) (by omega)
      refine va_put (D := G.1) (ci := 6) (v := .int (e_n + 1)) (ty := .int) (C := RX6) (T := TX6) (N := 4) hx hb hts inG_X6 tyX6 tyX6_ok nmX6 hown hK hP hD hS 1 rfl rfl 3 (by decide) (hts _ fl_X6_9) (fun _ h9 => h9) rfl (by decide +kernel) rfl rfl (Nat.le_of_ble_eq_true rfl) dX6_open_21 (fun H locs hP hD hS => ?_)
      refine g5_rs [(a_n, (arI G 40 f_n)), (a_t, (oc6 8 5 a_n (e_n + 1)))] hP hD (fun hP hD => ?_)
      refine lv_iconst (v := 0) hx hb dX6_open_24 (by decide) ?_
      refine lv_istore_n (lv' := [(3, .int 0), (2, .int e_n), (0, .ref a_t), (1, .int p_v)]) hx hb dX6_open_25 rfl hl (by decide) rfl (fun ls hl => ?_)
      refine g5_loop (α := (Int32) × (Nat → Int32)) (fun (q : (Int32) × (Nat → Int32)) (ls : Array Slot) (H : Heap) (locs : List Loc) => match q with | (k_c, k_f) => lv_has ls 4 [(3, .int k_c), (2, .int e_n), (0, .ref a_t), (1, .int p_v)] ∧ va_P G.1 vwCl [(a_n, (arI G 40 k_f)), (a_t, (oc6 8 5 a_n (e_n + 1)))] H ∧ va_D A [(a_n, (arI G 40 k_f)), (a_t, (oc6 8 5 a_n (e_n + 1)))] ∧ va_S A s.heap H locs ∧ (0 ≤ k_c.toInt ∧ k_c.toInt ≤ 5) ∧ (k_f = tfil f_n e_n.toInt 5 p_v k_c.toInt)) (fun (q : (Int32) × (Nat → Int32)) => match q with | (k_c, k_f) => Int.toNat (5 - k_c.toInt)) (0, f_n) ⟨lv_sub hl [0, 1, 2, 3] rfl, hP, hD, hS, ⟨by decide, by decide⟩, qt_fil0⟩ ?_
      rintro ⟨k_c, k_f⟩ ls H locs ⟨hl, hP, hD, hS, i_6, i_7⟩ ih_26_8
      have hl : lv_has ls 4 [(3, .int k_c), (2, .int e_n), (0, .ref a_t), (1, .int p_v)] := hl
      have i_6 : 0 ≤ k_c.toInt ∧ k_c.toInt ≤ 5 := i_6
      have i_7 : k_f = tfil f_n e_n.toInt 5 p_v k_c.toInt := i_7
      refine g5_rs [(a_n, (arI G 40 k_f)), (a_t, (oc6 8 5 a_n (e_n + 1)))] hP hD (fun hP hD => ?_)
      refine lv_iload_n hx hb dX6_open_26 rfl (lv_at hl 0 rfl) ?_
      refine lv_aload_n hx hb dX6_open_27 rfl (lv_at hl 2 rfl) ?_
      refine va_get (D := G.1) (ci := 6) (v := .int 5) (C := RX6) (T := TX6) (N := 4) hx hb hts inG_X6 hown hK hP 1 rfl rfl 1 (by decide) (hts _ fl_X6_18) (fun _ h9 => h9) rfl dX6_open_28 ?_
      refine lv_icmp_ge (tgt := 47) hx hb dX6_open_31 (by decide) (fun c_9 => ?_) (fun c_9 => ?_)
      ·
        have i_9 : k_c.toInt ≥ 5 := by have z := g5_ge (a := k_c.toInt) (b := 5) (by rfl) (by decide) c_9; omega
        refine lv_iload_n hx hb dX6_open_47 rfl (lv_at hl 1 rfl) ?_
        exact W.iret (v := e_n) hx hb hr (fun t ht hW => ⟨⟨e_n, [(a_t, (oc6 8 5 a_n (e_n + 1))), (a_n, (arI G 40 k_f))], rfl, Or.inr (⟨k_f, by omega, by omega, by rw [i_7, show k_c.toInt = 5 by omega], rfl, rfl⟩), by rw [ht]; exact hP.sub [1, 0] rfl, hD.sub [1, 0] (by decide) rfl⟩, hS.F ht⟩) hS.2.2 dX6_open_48
      ·
        have i_9 : k_c.toInt < 5 := by have z := g5_geN (a := k_c.toInt) (b := 5) (by rfl) (by decide) c_9; omega
        refine lv_aload_n hx hb dX6_open_34 rfl (lv_at hl 2 rfl) ?_
        refine lv_iload_n hx hb dX6_open_35 rfl (lv_at hl 1 rfl) ?_
        refine lv_iload_n hx hb dX6_open_36 rfl (lv_at hl 0 rfl) ?_
        refine lv_iload_n hx hb dX6_open_37 rfl (lv_at hl 3 rfl) ?_
        obtain ⟨hPc, hDc, hFc⟩ := g5_sub3 (wc := [(a_t, (oc6 8 5 a_n (e_n + 1))), (a_n, (arI G 40 k_f))]) hP hD hS hA [1, 0] (by decide) rfl
        refine va_callv (va_runV (As := [.int e_n, .int k_c, .int p_v]) (rest := []) ⟨hx, hb, hml, hown, hts⟩ (t_set_P l G a_t a_n H.size (e_n + 1) e_n k_c p_v k_f ⟨by omega, by omega⟩) (cwV 3 hts gV_X6_29 rfl rfl rfl hv_X6_set ⟨Nat.le_of_ble_eq_true rfl, Nat.le_of_ble_eq_true rfl⟩) (g5_preV hPc hK hDc hN hT hS hFc (ci := 6) (q0 := 0) rfl rfl) rfl rfl hl.1 rfl (lv_room (Nat.le_of_ble_eq_true rfl)) dX6_open_38 ⟨Nat.le_of_ble_eq_true rfl, Nat.le_of_ble_eq_true rfl⟩) hS (fun q _ h => hFc q h) hFc (fun u t H1 locs ht hvm hw hB hz1 hk1 hS => ?_)
        obtain ⟨hP1, hD1⟩ := hB
        rw [ht] at hP1
        obtain ⟨z11, i_10, rfl⟩ := hw
        have i_10 : z11 = tset k_f (e_n + 1).toInt 5 e_n.toInt k_c.toInt p_v := i_10
        obtain ⟨hP, hD⟩ := va_join (wr := []) hP hD [1, 0] [] rfl rfl (by decide) (by decide) hk1 hFc hP1 hD1
        generalize H1 = H at hP hS ⊢
        refine g5_rs [(a_t, (oc6 8 5 a_n (e_n + 1))), (a_n, (arI G 40 z11))] hP hD (fun hP hD => ?_)
        refine lv_iinc (v := (k_c + 1)) (lv' := [(3, .int (k_c + 1)), (2, .int e_n), (0, .ref a_t), (1, .int p_v)]) hx hb dX6_open_41 hl (k := 0) rfl rfl (by decide) rfl (fun ls hl => ?_)
        have t_12 : (k_c + 1).toInt = k_c.toInt + 1 := g5_iadd (a := k_c.toInt) (b := 1) rfl (by decide) (by omega) (by omega)
        refine lv_goto (tgt := 26) hx hb dX6_open_44 (by decide) ?_
        exact ih_26_8 ((k_c + 1), z11) ls H locs (show Int.toNat (5 - (k_c + 1).toInt) < Int.toNat (5 - k_c.toInt) from g_up (show k_c.toInt < (k_c + 1).toInt by omega) (show k_c.toInt < 5 by omega)) ⟨lv_sub hl [0, 1, 2, 3] rfl, hP.sub [1, 0] rfl, hD.sub [1, 0] (by decide) rfl, hS, ⟨by omega, by omega⟩, i_10.trans (qt_filS i_7 (by omega) (by omega) (by omega) (by omega) (by omega))⟩
    ·
      exact absurd c_4 (by decide)
set_option maxHeartbeats 4000000 in
set_option maxRecDepth 100000 in
theorem t_find_P (l : Launch) (G : g5_G) (a_t a_n : Nat) (sz : Nat) (e_n : Int32) (p_c : Int32) (p_v : Int32) (f_n : Nat → Int32) (h_e_n : 0 ≤ e_n.toInt ∧ e_n.toInt ≤ 8) : Met l yX6_find (wsG yX6_find cX6_find 4 (some .int)) ({ frames := 1, cells := 0, slots := 0, locals := 22 }) (va_Pc [.ref a_t, .int p_c, .int p_v] (g5_P G [(a_t, (oc6 8 5 a_n e_n)), (a_n, (arI G 40 f_n))] sz)) (va_Qi (fun (r : Int32) (u : va_W) => ((∀ r : Int, 0 ≤ r → r < e_n.toInt → tget f_n e_n.toInt 5 r p_c.toInt ≠ p_v) ∧ (r = (-1)) ∧ (u = [(a_t, (oc6 8 5 a_n e_n)), (a_n, (arI G 40 f_n))])) ∨ (∃ (o_r : Int32), (0 ≤ o_r.toInt ∧ o_r.toInt < e_n.toInt) ∧ (tget f_n e_n.toInt 5 o_r.toInt p_c.toInt = p_v) ∧ (r = o_r) ∧ (u = [(a_t, (oc6 8 5 a_n e_n)), (a_n, (arI G 40 f_n))]))) (g5_B G (va_A [(a_t, (oc6 8 5 a_n e_n)), (a_n, (arI G 40 f_n))] sz)) (va_A [(a_t, (oc6 8 5 a_n e_n)), (a_n, (arI G 40 f_n))] sz)) 0 0 (va_A [(a_t, (oc6 8 5 a_n e_n)), (a_n, (arI G 40 f_n))] sz) := by
  refine Met.ofW (cc := cX6_find) (maxL := 4) (ret := (some .int)) (by decide) rfl ?_
  intro p e s m args below meth c s₁ B hml hv
  obtain ⟨rfl, hsz, hP, hK, hD0, hN, hT⟩ := hv
  have hx := B.exec
  have hb := B.bytes
  have hr := B.returns
  have hts : ∀ w ∈ tblG, w.before _ s = true := fun w h => atoms_spec (ws := (wsG yX6_find cX6_find 4 (some .int))) B.pre w (List.mem_cons_of_mem _ h)
  have hown : s.vm.findClass RX6 = some m.cls := findClass_of_methodNamed B.named
  have hlocks := B.notSynchronized
  subst hsz
  have hD := hD0.self (sz := s.heap.size)
  generalize hAe : va_A [(a_t, (oc6 8 5 a_n e_n)), (a_n, (arI G 40 f_n))] s.heap.size = A at hD hT ⊢
  have hA : ∀ q : Nat, s.heap.size ≤ q → A q := fun q h => by rw [← hAe]; exact Or.inr h
  have hS : va_S A s.heap s.heap [] := va_S.rf
  have hP : va_P G.1 vwCl [(a_t, (oc6 8 5 a_n e_n)), (a_n, (arI G 40 f_n))] s.heap := hP
  have hl := lv_entry ([.ref a_t, .int p_c, .int p_v]) (n := 4) (Nat.le_of_ble_eq_true rfl)
  rw [lg_entry_eq]
  generalize (lg_sl ([.ref a_t, .int p_c, .int p_v]) ++ List.replicate (4 - (lg_sl ([.ref a_t, .int p_c, .int p_v])).length) Slot.unset).toArray = ls at hl ⊢
  have hl : lv_has ls 4 [(0, .ref a_t), (1, .int p_c), (2, .int p_v)] := hl
  refine lv_iconst (v := 0) hx hb dX6_find_0 (by decide) ?_
  refine lv_istore_n (lv' := [(3, .int 0), (0, .ref a_t), (1, .int p_c), (2, .int p_v)]) hx hb dX6_find_1 rfl hl (by decide) rfl (fun ls hl => ?_)
  refine g5_loop (α := (Int32)) (fun (k_r : (Int32)) (ls : Array Slot) (H : Heap) (locs : List Loc) => lv_has ls 4 [(3, .int k_r), (0, .ref a_t), (1, .int p_c), (2, .int p_v)] ∧ va_P G.1 vwCl [(a_t, (oc6 8 5 a_n e_n)), (a_n, (arI G 40 f_n))] H ∧ va_D A [(a_t, (oc6 8 5 a_n e_n)), (a_n, (arI G 40 f_n))] ∧ va_S A s.heap H locs ∧ (0 ≤ k_r.toInt ∧ k_r.toInt ≤ 8) ∧ (k_r.toInt ≤ e_n.toInt) ∧ (∀ r : Int, 0 ≤ r → r < k_r.toInt → tget f_n e_n.toInt 5 r p_c.toInt ≠ p_v)) (fun (k_r : (Int32)) => Int.toNat (8 - k_r.toInt)) 0 ⟨lv_sub hl [0, 1, 2, 3] rfl, hP, hD, hS, ⟨by decide, by decide⟩, by have z0 : (0 : Int32).toInt = 0 := (by decide); omega, fun r h1 h2 => absurd h2 (by have z : (0 : Int32).toInt = 0 := (by decide); omega)⟩ ?_
  rintro k_r ls H locs ⟨hl, hP, hD, hS, i_1, i_2, i_3⟩ ih_2_4
  have hl : lv_has ls 4 [(3, .int k_r), (0, .ref a_t), (1, .int p_c), (2, .int p_v)] := hl
  have i_1 : 0 ≤ k_r.toInt ∧ k_r.toInt ≤ 8 := i_1
  have i_2 : k_r.toInt ≤ e_n.toInt := i_2
  have i_3 : ∀ r : Int, 0 ≤ r → r < k_r.toInt → tget f_n e_n.toInt 5 r p_c.toInt ≠ p_v := i_3
  refine g5_rs [(a_t, (oc6 8 5 a_n e_n)), (a_n, (arI G 40 f_n))] hP hD (fun hP hD => ?_)
  refine lv_iload_n hx hb dX6_find_2 rfl (lv_at hl 0 rfl) ?_
  refine lv_aload_n hx hb dX6_find_3 rfl (lv_at hl 1 rfl) ?_
  refine va_get (D := G.1) (ci := 6) (v := .int e_n) (C := RX6) (T := TX6) (N := 4) hx hb hts inG_X6 hown hK hP 0 rfl rfl 3 (by decide) (hts _ fl_X6_9) (fun _ h9 => h9) rfl dX6_find_4 ?_
  refine lv_icmp_ge (tgt := 28) hx hb dX6_find_7 (by decide) (fun c_5 => ?_) (fun c_5 => ?_)
  ·
    have i_5 : k_r.toInt ≥ e_n.toInt := by have z := g5_ge (a := k_r.toInt) (b := e_n.toInt) (by rfl) (by rfl) c_5; omega
    refine lv_iconst (v := (-1)) hx hb dX6_find_28 (by decide) ?_
    exact W.iret (v := (-1)) hx hb hr (fun t ht hW => ⟨⟨(-1), [(a_t, (oc6 8 5 a_n e_n)), (a_n, (arI G 40 f_n))], rfl, Or.inl (⟨fun r h1 h2 => i_3 r h1 (by omega), rfl, rfl⟩), by rw [ht]; exact hP.sub [0, 1] rfl, hD.sub [0, 1] (by decide) rfl⟩, hS.F ht⟩) hS.2.2 dX6_find_29
  ·
    have i_5 : k_r.toInt < e_n.toInt := by have z := g5_geN (a := k_r.toInt) (b := e_n.toInt) (by rfl) (by rfl) c_5; omega
    refine lv_aload_n hx hb dX6_find_10 rfl (lv_at hl 1 rfl) ?_
    refine lv_iload_n hx hb dX6_find_11 rfl (lv_at hl 0 rfl) ?_
    refine lv_iload_n hx hb dX6_find_12 rfl (lv_at hl 2 rfl) ?_
    obtain ⟨hPc, hDc, hFc⟩ := g5_sub3 (wc := [(a_t, (oc6 8 5 a_n e_n)), (a_n, (arI G 40 f_n))]) hP hD hS hA [0, 1] (by decide) rfl
    refine va_calli (va_runV (As := [.int k_r, .int p_c]) (rest := []) ⟨hx, hb, hml, hown, hts⟩ (t_get_P l G a_t a_n H.size e_n k_r p_c f_n h_e_n) (cwV 2 hts gV_X6_43 rfl rfl rfl hv_X6_get ⟨Nat.le_of_ble_eq_true rfl, Nat.le_of_ble_eq_true rfl⟩) (g5_preV hPc hK hDc hN hT hS hFc (ci := 6) (q0 := 0) rfl rfl) rfl rfl hl.1 rfl (lv_room (Nat.le_of_ble_eq_true rfl)) dX6_find_13 ⟨Nat.le_of_ble_eq_true rfl, Nat.le_of_ble_eq_true rfl⟩) hS (fun q _ h => hFc q h) hFc (fun r u t H1 locs ht hvm hw hB hz1 hk1 hS => ?_)
    obtain ⟨hP1, hD1⟩ := hB
    rw [ht] at hP1
    obtain ⟨z7, i_6, y8, rfl⟩ := hw
    have i_6 : z7 = tget f_n e_n.toInt 5 k_r.toInt p_c.toInt := i_6
    obtain ⟨hP, hD⟩ := va_join (wr := []) hP hD [0, 1] [] rfl rfl (by decide) (by decide) hk1 hFc hP1 hD1
    generalize H1 = H at hP hS ⊢
    refine g5_rs [(a_t, (oc6 8 5 a_n e_n)), (a_n, (arI G 40 f_n))] hP hD (fun hP hD => ?_)
    refine g5_ti (v := z7) y8 ?_
    refine lv_iload_n hx hb dX6_find_16 rfl (lv_at hl 3 rfl) ?_
    refine lv_icmp_ne (tgt := 22) hx hb dX6_find_17 (by decide) (fun c_9 => ?_) (fun c_9 => ?_)
    ·
      have n_9 : gNe (z7.toInt) (p_v.toInt) := by have z := g5_ne (a := z7.toInt) (b := p_v.toInt) (by rfl) (by rfl) c_9; unfold gNe; omega
      refine lv_iinc (v := (k_r + 1)) (lv' := [(3, .int (k_r + 1)), (0, .ref a_t), (1, .int p_c), (2, .int p_v)]) hx hb dX6_find_22 hl (k := 0) rfl rfl (by decide) rfl (fun ls hl => ?_)
      have t_10 : (k_r + 1).toInt = k_r.toInt + 1 := g5_iadd (a := k_r.toInt) (b := 1) rfl (by decide) (by omega) (by omega)
      refine lv_goto (tgt := 2) hx hb dX6_find_25 (by decide) ?_
      exact ih_2_4 (k_r + 1) ls H locs (show Int.toNat (8 - (k_r + 1).toInt) < Int.toNat (8 - k_r.toInt) from g_up (show k_r.toInt < (k_r + 1).toInt by omega) (show k_r.toInt < 8 by omega)) ⟨lv_sub hl [0, 1, 2, 3] rfl, hP, hD, hS, ⟨by omega, by omega⟩, by omega, fun r h1 h2 => by rcases (show r < k_r.toInt ∨ r = k_r.toInt by omega) with q | q; exact i_3 r h1 q; rw [q, ← i_6]; intro q2; rw [q2] at n_9; exact absurd rfl n_9⟩
    ·
      have i_9 : z7.toInt = p_v.toInt := by have z := g5_neN (a := z7.toInt) (b := p_v.toInt) (by rfl) (by rfl) c_9; omega
      refine lv_iload_n hx hb dX6_find_20 rfl (lv_at hl 0 rfl) ?_
      exact W.iret (v := k_r) hx hb hr (fun t ht hW => ⟨⟨k_r, [(a_t, (oc6 8 5 a_n e_n)), (a_n, (arI G 40 f_n))], rfl, Or.inr (⟨k_r, ⟨by omega, by omega⟩, by rw [← i_6]; exact Int32.toInt_inj.mp (by omega), rfl, rfl⟩), by rw [ht]; exact hP.sub [0, 1] rfl, hD.sub [0, 1] (by decide) rfl⟩, hS.F ht⟩) hS.2.2 dX6_find_21
set_option maxHeartbeats 4000000 in
set_option maxRecDepth 100000 in
theorem t_has_W (l : Launch) (G : g5_G) (a_t a_n : Nat) (sz : Nat) (e_n : Int32) (p_r : Int32) (h_e_n : 0 ≤ e_n.toInt ∧ e_n.toInt ≤ 6) : Met l yX6_has (wsG yX6_has cX6_has 2 (some .boolean)) ({ frames := 0, cells := 0, slots := 0, locals := 0 }) (va_Pc [.ref a_t, .int p_r] (g5_P G [(a_t, (oc6 6 6 a_n e_n))] sz)) (va_Qi (fun (r : Int32) (u : va_W) => ((0 ≤ p_r.toInt ∧ p_r.toInt < e_n.toInt) ∧ (r = 1) ∧ (u = [(a_t, (oc6 6 6 a_n e_n))])) ∨ ((p_r.toInt < 0 ∨ e_n.toInt ≤ p_r.toInt) ∧ (r = 0) ∧ (u = [(a_t, (oc6 6 6 a_n e_n))]))) (g5_B G (va_A [(a_t, (oc6 6 6 a_n e_n))] sz)) (va_A [(a_t, (oc6 6 6 a_n e_n))] sz)) 0 0 (va_A [(a_t, (oc6 6 6 a_n e_n))] sz) := by
  refine Met.ofW (cc := cX6_has) (maxL := 2) (ret := (some .boolean)) (by decide) rfl ?_
  intro p e s m args below meth c s₁ B hml hv
  obtain ⟨rfl, hsz, hP, hK, hD0, hN, hT⟩ := hv
  have hx := B.exec
  have hb := B.bytes
  have hr := B.returns
  have hts : ∀ w ∈ tblG, w.before _ s = true := fun w h => atoms_spec (ws := (wsG yX6_has cX6_has 2 (some .boolean))) B.pre w (List.mem_cons_of_mem _ h)
  have hown : s.vm.findClass RX6 = some m.cls := findClass_of_methodNamed B.named
  have hlocks := B.notSynchronized
  subst hsz
  have hD := hD0.self (sz := s.heap.size)
  generalize hAe : va_A [(a_t, (oc6 6 6 a_n e_n))] s.heap.size = A at hD hT ⊢
  have hA : ∀ q : Nat, s.heap.size ≤ q → A q := fun q h => by rw [← hAe]; exact Or.inr h
  have hS : va_S A s.heap s.heap [] := va_S.rf
  have hP : va_P G.1 vwCl [(a_t, (oc6 6 6 a_n e_n))] s.heap := hP
  have hl := lv_entry ([.ref a_t, .int p_r]) (n := 2) (Nat.le_of_ble_eq_true rfl)
  rw [lg_entry_eq]
  generalize (lg_sl ([.ref a_t, .int p_r]) ++ List.replicate (2 - (lg_sl ([.ref a_t, .int p_r])).length) Slot.unset).toArray = ls at hl ⊢
  have hl : lv_has ls 2 [(0, .ref a_t), (1, .int p_r)] := hl
  refine lv_iload_n hx hb dX6_has_0 rfl (lv_at hl 1 rfl) ?_
  refine lv_if_lt (tgt := 16) hx hb dX6_has_1 (by decide) (fun c_1 => ?_) (fun c_1 => ?_)
  ·
    have i_1 : p_r.toInt < 0 := by have z := g5_lt (a := p_r.toInt) (b := 0) (by rfl) (by decide) c_1; omega
    refine lv_iconst (v := 0) hx hb dX6_has_16 (by decide) ?_
    exact W.zret (v := 0) hx hb hr rfl (fun t ht hW => ⟨⟨0, [(a_t, (oc6 6 6 a_n e_n))], rfl, Or.inr (⟨by omega, rfl, rfl⟩), by rw [ht]; exact hP.sub [0] rfl, hD.sub [0] (by decide) rfl⟩, hS.F ht⟩) hS.2.2 dX6_has_17
  ·
    have i_1 : p_r.toInt ≥ 0 := by have z := g5_ltN (a := p_r.toInt) (b := 0) (by rfl) (by decide) c_1; omega
    refine lv_iload_n hx hb dX6_has_4 rfl (lv_at hl 1 rfl) ?_
    refine lv_aload_n hx hb dX6_has_5 rfl (lv_at hl 0 rfl) ?_
    refine va_get (D := G.1) (ci := 6) (v := .int e_n) (C := RX6) (T := TX6) (N := 4) hx hb hts inG_X6 hown hK hP 0 rfl rfl 3 (by decide) (hts _ fl_X6_9) (fun _ h9 => h9) rfl dX6_has_6 ?_
    refine lv_icmp_ge (tgt := 16) hx hb dX6_has_9 (by decide) (fun c_2 => ?_) (fun c_2 => ?_)
    ·
      have i_2 : p_r.toInt ≥ e_n.toInt := by have z := g5_ge (a := p_r.toInt) (b := e_n.toInt) (by rfl) (by rfl) c_2; omega
      refine lv_iconst (v := 0) hx hb dX6_has_16 (by decide) ?_
      exact W.zret (v := 0) hx hb hr rfl (fun t ht hW => ⟨⟨0, [(a_t, (oc6 6 6 a_n e_n))], rfl, Or.inr (⟨by omega, rfl, rfl⟩), by rw [ht]; exact hP.sub [0] rfl, hD.sub [0] (by decide) rfl⟩, hS.F ht⟩) hS.2.2 dX6_has_17
    ·
      have i_2 : p_r.toInt < e_n.toInt := by have z := g5_geN (a := p_r.toInt) (b := e_n.toInt) (by rfl) (by rfl) c_2; omega
      refine lv_iconst (v := 1) hx hb dX6_has_12 (by decide) ?_
      refine lv_goto (tgt := 17) hx hb dX6_has_13 (by decide) ?_
      exact W.zret (v := 1) hx hb hr rfl (fun t ht hW => ⟨⟨1, [(a_t, (oc6 6 6 a_n e_n))], rfl, Or.inl (⟨by omega, rfl, rfl⟩), by rw [ht]; exact hP.sub [0] rfl, hD.sub [0] (by decide) rfl⟩, hS.F ht⟩) hS.2.2 dX6_has_17
set_option maxHeartbeats 4000000 in
set_option maxRecDepth 100000 in
theorem t_isFull_W (l : Launch) (G : g5_G) (a_t a_n : Nat) (sz : Nat) (e_n : Int32) (h_e_n : 0 ≤ e_n.toInt ∧ e_n.toInt ≤ 6) : Met l yX6_isFull (wsG yX6_isFull cX6_isFull 1 (some .boolean)) ({ frames := 0, cells := 0, slots := 0, locals := 0 }) (va_Pc [.ref a_t] (g5_P G [(a_t, (oc6 6 6 a_n e_n))] sz)) (va_Qi (fun (r : Int32) (u : va_W) => ((e_n.toInt = 6) ∧ (r = 1) ∧ (u = [(a_t, (oc6 6 6 a_n e_n))])) ∨ ((e_n.toInt < 6) ∧ (r = 0) ∧ (u = [(a_t, (oc6 6 6 a_n e_n))]))) (g5_B G (va_A [(a_t, (oc6 6 6 a_n e_n))] sz)) (va_A [(a_t, (oc6 6 6 a_n e_n))] sz)) 0 0 (va_A [(a_t, (oc6 6 6 a_n e_n))] sz) := by
  refine Met.ofW (cc := cX6_isFull) (maxL := 1) (ret := (some .boolean)) (by decide) rfl ?_
  intro p e s m args below meth c s₁ B hml hv
  obtain ⟨rfl, hsz, hP, hK, hD0, hN, hT⟩ := hv
  have hx := B.exec
  have hb := B.bytes
  have hr := B.returns
  have hts : ∀ w ∈ tblG, w.before _ s = true := fun w h => atoms_spec (ws := (wsG yX6_isFull cX6_isFull 1 (some .boolean))) B.pre w (List.mem_cons_of_mem _ h)
  have hown : s.vm.findClass RX6 = some m.cls := findClass_of_methodNamed B.named
  have hlocks := B.notSynchronized
  subst hsz
  have hD := hD0.self (sz := s.heap.size)
  generalize hAe : va_A [(a_t, (oc6 6 6 a_n e_n))] s.heap.size = A at hD hT ⊢
  have hA : ∀ q : Nat, s.heap.size ≤ q → A q := fun q h => by rw [← hAe]; exact Or.inr h
  have hS : va_S A s.heap s.heap [] := va_S.rf
  have hP : va_P G.1 vwCl [(a_t, (oc6 6 6 a_n e_n))] s.heap := hP
  have hl := lv_entry ([.ref a_t]) (n := 1) (Nat.le_of_ble_eq_true rfl)
  rw [lg_entry_eq]
  generalize (lg_sl ([.ref a_t]) ++ List.replicate (1 - (lg_sl ([.ref a_t])).length) Slot.unset).toArray = ls at hl ⊢
  have hl : lv_has ls 1 [(0, .ref a_t)] := hl
  refine lv_aload_n hx hb dX6_isFull_0 rfl (lv_at hl 0 rfl) ?_
  refine va_get (D := G.1) (ci := 6) (v := .int e_n) (C := RX6) (T := TX6) (N := 4) hx hb hts inG_X6 hown hK hP 0 rfl rfl 3 (by decide) (hts _ fl_X6_9) (fun _ h9 => h9) rfl dX6_isFull_1 ?_
  refine lv_aload_n hx hb dX6_isFull_4 rfl (lv_at hl 0 rfl) ?_
  refine va_get (D := G.1) (ci := 6) (v := .int 6) (C := RX6) (T := TX6) (N := 4) hx hb hts inG_X6 hown hK hP 0 rfl rfl 0 (by decide) (hts _ fl_X6_15) (fun _ h9 => h9) rfl dX6_isFull_5 ?_
  refine lv_icmp_lt (tgt := 15) hx hb dX6_isFull_8 (by decide) (fun c_1 => ?_) (fun c_1 => ?_)
  ·
    have i_1 : e_n.toInt < 6 := by have z := g5_lt (a := e_n.toInt) (b := 6) (by rfl) (by decide) c_1; omega
    refine lv_iconst (v := 0) hx hb dX6_isFull_15 (by decide) ?_
    exact W.zret (v := 0) hx hb hr rfl (fun t ht hW => ⟨⟨0, [(a_t, (oc6 6 6 a_n e_n))], rfl, Or.inr (⟨by omega, rfl, rfl⟩), by rw [ht]; exact hP.sub [0] rfl, hD.sub [0] (by decide) rfl⟩, hS.F ht⟩) hS.2.2 dX6_isFull_16
  ·
    have i_1 : e_n.toInt ≥ 6 := by have z := g5_ltN (a := e_n.toInt) (b := 6) (by rfl) (by decide) c_1; omega
    refine lv_iconst (v := 1) hx hb dX6_isFull_11 (by decide) ?_
    refine lv_goto (tgt := 16) hx hb dX6_isFull_12 (by decide) ?_
    exact W.zret (v := 1) hx hb hr rfl (fun t ht hW => ⟨⟨1, [(a_t, (oc6 6 6 a_n e_n))], rfl, Or.inl (⟨by omega, rfl, rfl⟩), by rw [ht]; exact hP.sub [0] rfl, hD.sub [0] (by decide) rfl⟩, hS.F ht⟩) hS.2.2 dX6_isFull_16
set_option maxHeartbeats 4000000 in
set_option maxRecDepth 100000 in
theorem t_get_W (l : Launch) (G : g5_G) (a_t a_n : Nat) (sz : Nat) (e_n : Int32) (p_r : Int32) (p_c : Int32) (f_n : Nat → Int32) (h_e_n : 0 ≤ e_n.toInt ∧ e_n.toInt ≤ 6) : Met l yX6_get (wsG yX6_get cX6_get 3 (some .int)) ({ frames := 0, cells := 0, slots := 0, locals := 0 }) (va_Pc [.ref a_t, .int p_r, .int p_c] (g5_P G [(a_t, (oc6 6 6 a_n e_n)), (a_n, (arI G 36 f_n))] sz)) (va_Qi (fun (r : Int32) (u : va_W) => (∃ (o_r : Int32), (o_r = tget f_n e_n.toInt 6 p_r.toInt p_c.toInt) ∧ (r = o_r) ∧ (u = [(a_t, (oc6 6 6 a_n e_n)), (a_n, (arI G 36 f_n))]))) (g5_B G (va_A [(a_t, (oc6 6 6 a_n e_n)), (a_n, (arI G 36 f_n))] sz)) (va_A [(a_t, (oc6 6 6 a_n e_n)), (a_n, (arI G 36 f_n))] sz)) 0 0 (va_A [(a_t, (oc6 6 6 a_n e_n)), (a_n, (arI G 36 f_n))] sz) := by
  refine Met.ofW (cc := cX6_get) (maxL := 3) (ret := (some .int)) (by decide) rfl ?_
  intro p e s m args below meth c s₁ B hml hv
  obtain ⟨rfl, hsz, hP, hK, hD0, hN, hT⟩ := hv
  have hx := B.exec
  have hb := B.bytes
  have hr := B.returns
  have hts : ∀ w ∈ tblG, w.before _ s = true := fun w h => atoms_spec (ws := (wsG yX6_get cX6_get 3 (some .int))) B.pre w (List.mem_cons_of_mem _ h)
  have hown : s.vm.findClass RX6 = some m.cls := findClass_of_methodNamed B.named
  have hlocks := B.notSynchronized
  subst hsz
  have hD := hD0.self (sz := s.heap.size)
  generalize hAe : va_A [(a_t, (oc6 6 6 a_n e_n)), (a_n, (arI G 36 f_n))] s.heap.size = A at hD hT ⊢
  have hA : ∀ q : Nat, s.heap.size ≤ q → A q := fun q h => by rw [← hAe]; exact Or.inr h
  have hS : va_S A s.heap s.heap [] := va_S.rf
  have hP : va_P G.1 vwCl [(a_t, (oc6 6 6 a_n e_n)), (a_n, (arI G 36 f_n))] s.heap := hP
  have hl := lv_entry ([.ref a_t, .int p_r, .int p_c]) (n := 3) (Nat.le_of_ble_eq_true rfl)
  rw [lg_entry_eq]
  generalize (lg_sl ([.ref a_t, .int p_r, .int p_c]) ++ List.replicate (3 - (lg_sl ([.ref a_t, .int p_r, .int p_c])).length) Slot.unset).toArray = ls at hl ⊢
  have hl : lv_has ls 3 [(0, .ref a_t), (1, .int p_r), (2, .int p_c)] := hl
  refine lv_iload_n hx hb dX6_get_0 rfl (lv_at hl 1 rfl) ?_
  refine lv_if_lt (tgt := 24) hx hb dX6_get_1 (by decide) (fun c_1 => ?_) (fun c_1 => ?_)
  ·
    have i_1 : p_r.toInt < 0 := by have z := g5_lt (a := p_r.toInt) (b := 0) (by rfl) (by decide) c_1; omega
    refine lv_iconst (v := (-1)) hx hb dX6_get_24 (by decide) ?_
    exact W.iret (v := (-1)) hx hb hr (fun t ht hW => ⟨⟨(-1), [(a_t, (oc6 6 6 a_n e_n)), (a_n, (arI G 36 f_n))], rfl, ⟨(-1), qt_getN (by omega), rfl, rfl⟩, by rw [ht]; exact hP.sub [0, 1] rfl, hD.sub [0, 1] (by decide) rfl⟩, hS.F ht⟩) hS.2.2 dX6_get_25
  ·
    have i_1 : p_r.toInt ≥ 0 := by have z := g5_ltN (a := p_r.toInt) (b := 0) (by rfl) (by decide) c_1; omega
    refine lv_iload_n hx hb dX6_get_4 rfl (lv_at hl 1 rfl) ?_
    refine lv_aload_n hx hb dX6_get_5 rfl (lv_at hl 0 rfl) ?_
    refine va_get (D := G.1) (ci := 6) (v := .int e_n) (C := RX6) (T := TX6) (N := 4) hx hb hts inG_X6 hown hK hP 0 rfl rfl 3 (by decide) (hts _ fl_X6_9) (fun _ h9 => h9) rfl dX6_get_6 ?_
    refine lv_icmp_ge (tgt := 24) hx hb dX6_get_9 (by decide) (fun c_2 => ?_) (fun c_2 => ?_)
    ·
      have i_2 : p_r.toInt ≥ e_n.toInt := by have z := g5_ge (a := p_r.toInt) (b := e_n.toInt) (by rfl) (by rfl) c_2; omega
      refine lv_iconst (v := (-1)) hx hb dX6_get_24 (by decide) ?_
      exact W.iret (v := (-1)) hx hb hr (fun t ht hW => ⟨⟨(-1), [(a_t, (oc6 6 6 a_n e_n)), (a_n, (arI G 36 f_n))], rfl, ⟨(-1), qt_getN (by omega), rfl, rfl⟩, by rw [ht]; exact hP.sub [0, 1] rfl, hD.sub [0, 1] (by decide) rfl⟩, hS.F ht⟩) hS.2.2 dX6_get_25
    ·
      have i_2 : p_r.toInt < e_n.toInt := by have z := g5_geN (a := p_r.toInt) (b := e_n.toInt) (by rfl) (by rfl) c_2; omega
      refine lv_iload_n hx hb dX6_get_12 rfl (lv_at hl 2 rfl) ?_
      refine lv_if_lt (tgt := 24) hx hb dX6_get_13 (by decide) (fun c_3 => ?_) (fun c_3 => ?_)
      ·
        have i_3 : p_c.toInt < 0 := by have z := g5_lt (a := p_c.toInt) (b := 0) (by rfl) (by decide) c_3; omega
        refine lv_iconst (v := (-1)) hx hb dX6_get_24 (by decide) ?_
        exact W.iret (v := (-1)) hx hb hr (fun t ht hW => ⟨⟨(-1), [(a_t, (oc6 6 6 a_n e_n)), (a_n, (arI G 36 f_n))], rfl, ⟨(-1), qt_getN (by omega), rfl, rfl⟩, by rw [ht]; exact hP.sub [0, 1] rfl, hD.sub [0, 1] (by decide) rfl⟩, hS.F ht⟩) hS.2.2 dX6_get_25
      ·
        have i_3 : p_c.toInt ≥ 0 := by have z := g5_ltN (a := p_c.toInt) (b := 0) (by rfl) (by decide) c_3; omega
        refine lv_iload_n hx hb dX6_get_16 rfl (lv_at hl 2 rfl) ?_
        refine lv_aload_n hx hb dX6_get_17 rfl (lv_at hl 0 rfl) ?_
        refine va_get (D := G.1) (ci := 6) (v := .int 6) (C := RX6) (T := TX6) (N := 4) hx hb hts inG_X6 hown hK hP 0 rfl rfl 1 (by decide) (hts _ fl_X6_18) (fun _ h9 => h9) rfl dX6_get_18 ?_
        refine lv_icmp_lt (tgt := 26) hx hb dX6_get_21 (by decide) (fun c_4 => ?_) (fun c_4 => ?_)
        ·
          have i_4 : p_c.toInt < 6 := by have z := g5_lt (a := p_c.toInt) (b := 6) (by rfl) (by decide) c_4; omega
          refine lv_aload_n hx hb dX6_get_26 rfl (lv_at hl 0 rfl) ?_
          refine va_get (D := G.1) (ci := 6) (v := .ref a_n) (C := RX6) (T := TX6) (N := 4) hx hb hts inG_X6 hown hK hP 0 rfl rfl 2 (by decide) (hts _ fl_X6_21) (fun _ h9 => h9) rfl dX6_get_27 ?_
          refine lv_iload_n hx hb dX6_get_30 rfl (lv_at hl 1 rfl) ?_
          refine lv_aload_n hx hb dX6_get_31 rfl (lv_at hl 0 rfl) ?_
          refine va_get (D := G.1) (ci := 6) (v := .int 6) (C := RX6) (T := TX6) (N := 4) hx hb hts inG_X6 hown hK hP 0 rfl rfl 1 (by decide) (hts _ fl_X6_18) (fun _ h9 => h9) rfl dX6_get_32 ?_
          refine lv_imul hx hb dX6_get_35 ?_
          have t_5 : (p_r * 6).toInt = p_r.toInt * 6 := g5_imul (a := p_r.toInt) (b := 6) (by rfl) (by decide) (by omega) (by omega)
          refine lv_iload_n hx hb dX6_get_36 rfl (lv_at hl 2 rfl) ?_
          refine lv_iadd hx hb dX6_get_37 ?_
          have t_6 : ((p_r * 6) + p_c).toInt = (p_r * 6).toInt + p_c.toInt := g5_iadd (a := (p_r * 6).toInt) (b := p_c.toInt) (by rfl) (by rfl) (by omega) (by omega)
          refine va_iald hx hb hK hP 1 0 rfl rfl (i := ((p_r * 6) + p_c)) (vp_in_iff.mpr ⟨by omega, by omega⟩) dX6_get_38 ?_
          exact W.iret (v := (f_n ((p_r * 6) + p_c).toNatClampNeg)) hx hb hr (fun t ht hW => ⟨⟨(f_n ((p_r * 6) + p_c).toNatClampNeg), [(a_t, (oc6 6 6 a_n e_n)), (a_n, (arI G 36 f_n))], rfl, ⟨(f_n ((p_r * 6) + p_c).toNatClampNeg), qt_get (x := ((p_r * 6) + p_c)) (by omega) (by omega), rfl, rfl⟩, by rw [ht]; exact hP.sub [0, 1] rfl, hD.sub [0, 1] (by decide) rfl⟩, hS.F ht⟩) hS.2.2 dX6_get_39
        ·
          have i_4 : p_c.toInt ≥ 6 := by have z := g5_ltN (a := p_c.toInt) (b := 6) (by rfl) (by decide) c_4; omega
          refine lv_iconst (v := (-1)) hx hb dX6_get_24 (by decide) ?_
          exact W.iret (v := (-1)) hx hb hr (fun t ht hW => ⟨⟨(-1), [(a_t, (oc6 6 6 a_n e_n)), (a_n, (arI G 36 f_n))], rfl, ⟨(-1), qt_getN (by omega), rfl, rfl⟩, by rw [ht]; exact hP.sub [0, 1] rfl, hD.sub [0, 1] (by decide) rfl⟩, hS.F ht⟩) hS.2.2 dX6_get_25
set_option maxHeartbeats 4000000 in
set_option maxRecDepth 100000 in
theorem t_set_W (l : Launch) (G : g5_G) (a_t a_n : Nat) (sz : Nat) (e_n : Int32) (p_r : Int32) (p_c : Int32) (p_v : Int32) (f_n : Nat → Int32) (h_e_n : 0 ≤ e_n.toInt ∧ e_n.toInt ≤ 6) : Met l yX6_set (wsG yX6_set cX6_set 4 none) ({ frames := 1, cells := 0, slots := 0, locals := 21 }) (va_Pc [.ref a_t, .int p_r, .int p_c, .int p_v] (g5_P G [(a_t, (oc6 6 6 a_n e_n)), (a_n, (arI G 36 f_n))] sz)) (va_Qv (fun (u : va_W) => (∃ (o_f : Nat → Int32), (o_f = tset f_n e_n.toInt 6 p_r.toInt p_c.toInt p_v) ∧ (u = [(a_t, (oc6 6 6 a_n e_n)), (a_n, (arI G 36 o_f))]))) (g5_B G (va_A [(a_t, (oc6 6 6 a_n e_n)), (a_n, (arI G 36 f_n))] sz)) (va_A [(a_t, (oc6 6 6 a_n e_n)), (a_n, (arI G 36 f_n))] sz)) 0 0 (va_A [(a_t, (oc6 6 6 a_n e_n)), (a_n, (arI G 36 f_n))] sz) := by
  refine Met.ofW (cc := cX6_set) (maxL := 4) (ret := none) (by decide) rfl ?_
  intro p e s m args below meth c s₁ B hml hv
  obtain ⟨rfl, hsz, hP, hK, hD0, hN, hT⟩ := hv
  have hx := B.exec
  have hb := B.bytes
  have hr := B.returns
  have hts : ∀ w ∈ tblG, w.before _ s = true := fun w h => atoms_spec (ws := (wsG yX6_set cX6_set 4 none)) B.pre w (List.mem_cons_of_mem _ h)
  have hown : s.vm.findClass RX6 = some m.cls := findClass_of_methodNamed B.named
  have hlocks := B.notSynchronized
  subst hsz
  have hD := hD0.self (sz := s.heap.size)
  generalize hAe : va_A [(a_t, (oc6 6 6 a_n e_n)), (a_n, (arI G 36 f_n))] s.heap.size = A at hD hT ⊢
  have hA : ∀ q : Nat, s.heap.size ≤ q → A q := fun q h => by rw [← hAe]; exact Or.inr h
  have hS : va_S A s.heap s.heap [] := va_S.rf
  have hP : va_P G.1 vwCl [(a_t, (oc6 6 6 a_n e_n)), (a_n, (arI G 36 f_n))] s.heap := hP
  have hl := lv_entry ([.ref a_t, .int p_r, .int p_c, .int p_v]) (n := 4) (Nat.le_of_ble_eq_true rfl)
  rw [lg_entry_eq]
  generalize (lg_sl ([.ref a_t, .int p_r, .int p_c, .int p_v]) ++ List.replicate (4 - (lg_sl ([.ref a_t, .int p_r, .int p_c, .int p_v])).length) Slot.unset).toArray = ls at hl ⊢
  have hl : lv_has ls 4 [(0, .ref a_t), (1, .int p_r), (2, .int p_c), (3, .int p_v)] := hl
  refine lv_aload_n hx hb dX6_set_0 rfl (lv_at hl 0 rfl) ?_
  refine lv_iload_n hx hb dX6_set_1 rfl (lv_at hl 1 rfl) ?_
  obtain ⟨hPc, hDc, hFc⟩ := g5_sub3 (wc := [(a_t, (oc6 6 6 a_n e_n))]) hP hD hS hA [0] (by decide) rfl
  refine va_calli (va_runV (As := [.int p_r]) (rest := []) ⟨hx, hb, hml, hown, hts⟩ (t_has_W l G a_t a_n s.heap.size e_n p_r h_e_n) (cwV 1 hts gV_X6_25 rfl rfl rfl hv_X6_has ⟨Nat.le_of_ble_eq_true rfl, Nat.le_of_ble_eq_true rfl⟩) (g5_preV hPc hK hDc hN hT hS hFc (ci := 6) (q0 := 0) rfl rfl) rfl rfl hl.1 rfl (lv_room (Nat.le_of_ble_eq_true rfl)) dX6_set_2 ⟨Nat.le_of_ble_eq_true rfl, Nat.le_of_ble_eq_true rfl⟩) hS (fun q _ h => hFc q h) hFc (fun r u t H1 locs ht hvm hw hB hz1 hk1 hS => ?_)
  obtain ⟨hP1, hD1⟩ := hB
  rw [ht] at hP1
  rcases hw with ⟨i_1, rfl, rfl⟩ | ⟨i_2, rfl, rfl⟩
  ·
    have i_1 : 0 ≤ p_r.toInt ∧ p_r.toInt < e_n.toInt := i_1
    obtain ⟨hP, hD⟩ := va_join (wr := [(a_n, (arI G 36 f_n))]) hP hD [0] [1] rfl rfl (by decide) (by decide) hk1 hFc hP1 hD1
    generalize H1 = H at hP hS ⊢
    refine g5_rs [(a_n, (arI G 36 f_n)), (a_t, (oc6 6 6 a_n e_n))] hP hD (fun hP hD => ?_)
    refine lv_if_eq (tgt := 34) hx hb dX6_set_5 (by decide) (fun c_3 => ?_) (fun c_3 => ?_)
    ·
      exact absurd c_3 (by decide)
    ·
      refine lv_iload_n hx hb dX6_set_8 rfl (lv_at hl 2 rfl) ?_
      refine lv_if_lt (tgt := 34) hx hb dX6_set_9 (by decide) (fun c_4 => ?_) (fun c_4 => ?_)
      ·
        have i_4 : p_c.toInt < 0 := by have z := g5_lt (a := p_c.toInt) (b := 0) (by rfl) (by decide) c_4; omega
        exact W.vret hx hb hr (fun t ht hW => ⟨⟨[(a_t, (oc6 6 6 a_n e_n)), (a_n, (arI G 36 f_n))], rfl, ⟨f_n, qt_setN (by omega), rfl⟩, by rw [ht]; exact hP.sub [1, 0] rfl, hD.sub [1, 0] (by decide) rfl⟩, hS.F ht⟩) hS.2.2 dX6_set_34
      ·
        have i_4 : p_c.toInt ≥ 0 := by have z := g5_ltN (a := p_c.toInt) (b := 0) (by rfl) (by decide) c_4; omega
        refine lv_iload_n hx hb dX6_set_12 rfl (lv_at hl 2 rfl) ?_
        refine lv_aload_n hx hb dX6_set_13 rfl (lv_at hl 0 rfl) ?_
        refine va_get (D := G.1) (ci := 6) (v := .int 6) (C := RX6) (T := TX6) (N := 4) hx hb hts inG_X6 hown hK hP 1 rfl rfl 1 (by decide) (hts _ fl_X6_18) (fun _ h9 => h9) rfl dX6_set_14 ?_
        refine lv_icmp_ge (tgt := 34) hx hb dX6_set_17 (by decide) (fun c_5 => ?_) (fun c_5 => ?_)
        ·
          have i_5 : p_c.toInt ≥ 6 := by have z := g5_ge (a := p_c.toInt) (b := 6) (by rfl) (by decide) c_5; omega
          exact W.vret hx hb hr (fun t ht hW => ⟨⟨[(a_t, (oc6 6 6 a_n e_n)), (a_n, (arI G 36 f_n))], rfl, ⟨f_n, qt_setN (by omega), rfl⟩, by rw [ht]; exact hP.sub [1, 0] rfl, hD.sub [1, 0] (by decide) rfl⟩, hS.F ht⟩) hS.2.2 dX6_set_34
        ·
          have i_5 : p_c.toInt < 6 := by have z := g5_geN (a := p_c.toInt) (b := 6) (by rfl) (by decide) c_5; omega
          refine lv_aload_n hx hb dX6_set_20 rfl (lv_at hl 0 rfl) ?_
          refine va_get (D := G.1) (ci := 6) (v := .ref a_n) (C := RX6) (T := TX6) (N := 4) hx hb hts inG_X6 hown hK hP 1 rfl rfl 2 (by decide) (hts _ fl_X6_21) (fun _ h9 => h9) rfl dX6_set_21 ?_
          refine lv_iload_n hx hb dX6_set_24 rfl (lv_at hl 1 rfl) ?_
          refine lv_aload_n hx hb dX6_set_25 rfl (lv_at hl 0 rfl) ?_
          refine va_get (D := G.1) (ci := 6) (v := .int 6) (C := RX6) (T := TX6) (N := 4) hx hb hts inG_X6 hown hK hP 1 rfl rfl 1 (by decide) (hts _ fl_X6_18) (fun _ h9 => h9) rfl dX6_set_26 ?_
          refine lv_imul hx hb dX6_set_29 ?_
          have t_6 : (p_r * 6).toInt = p_r.toInt * 6 := g5_imul (a := p_r.toInt) (b := 6) (by rfl) (by decide) (by omega) (by omega)
          refine lv_iload_n hx hb dX6_set_30 rfl (lv_at hl 2 rfl) ?_
          refine lv_iadd hx hb dX6_set_31 ?_
          have t_7 : ((p_r * 6) + p_c).toInt = (p_r * 6).toInt + p_c.toInt := g5_iadd (a := (p_r * 6).toInt) (b := p_c.toInt) (by rfl) (by rfl) (by omega) (by omega)
          refine lv_iload_n hx hb dX6_set_32 rfl (lv_at hl 3 rfl) ?_
          refine va_iast hx hb hK hP hD hS 0 0 rfl rfl (i := ((p_r * 6) + p_c)) (x := p_v) (vp_in_iff.mpr ⟨by omega, by omega⟩) dX6_set_33 (fun H locs hP hD hS => ?_)
          refine g5_rs [(a_n, (arI G 36 (upd f_n ((p_r * 6) + p_c).toNatClampNeg p_v))), (a_t, (oc6 6 6 a_n e_n))] hP hD (fun hP hD => ?_)
          exact W.vret hx hb hr (fun t ht hW => ⟨⟨[(a_t, (oc6 6 6 a_n e_n)), (a_n, (arI G 36 (upd f_n ((p_r * 6) + p_c).toNatClampNeg p_v)))], rfl, ⟨(upd f_n ((p_r * 6) + p_c).toNatClampNeg p_v), qt_set (x := ((p_r * 6) + p_c)) (by omega) (by omega), rfl⟩, by rw [ht]; exact hP.sub [1, 0] rfl, hD.sub [1, 0] (by decide) rfl⟩, hS.F ht⟩) hS.2.2 dX6_set_34
  ·
    have i_2 : p_r.toInt < 0 ∨ e_n.toInt ≤ p_r.toInt := i_2
    obtain ⟨hP, hD⟩ := va_join (wr := [(a_n, (arI G 36 f_n))]) hP hD [0] [1] rfl rfl (by decide) (by decide) hk1 hFc hP1 hD1
    generalize H1 = H at hP hS ⊢
    refine g5_rs [(a_n, (arI G 36 f_n)), (a_t, (oc6 6 6 a_n e_n))] hP hD (fun hP hD => ?_)
    refine lv_if_eq (tgt := 34) hx hb dX6_set_5 (by decide) (fun c_8 => ?_) (fun c_8 => ?_)
    ·
      exact W.vret hx hb hr (fun t ht hW => ⟨⟨[(a_t, (oc6 6 6 a_n e_n)), (a_n, (arI G 36 f_n))], rfl, ⟨f_n, qt_setN (by omega), rfl⟩, by rw [ht]; exact hP.sub [1, 0] rfl, hD.sub [1, 0] (by decide) rfl⟩, hS.F ht⟩) hS.2.2 dX6_set_34
    ·
      exact absurd c_8 (by decide)
set_option maxHeartbeats 4000000 in
set_option maxRecDepth 100000 in
theorem t_setLook_W (l : Launch) (G : g5_G) (a_t a_n : Nat) (sz : Nat) (e_n : Int32) (p_r : Int32) (p_a : Int32) (p_b : Int32) (p_c : Int32) (f_n : Nat → Int32) (h_e_n : 0 ≤ e_n.toInt ∧ e_n.toInt ≤ 6) : Met l yX6_setLook (wsG yX6_setLook cX6_setLook 5 none) ({ frames := 2, cells := 0, slots := 0, locals := 44 }) (va_Pc [.ref a_t, .int p_r, .int p_a, .int p_b, .int p_c] (g5_P G [(a_t, (oc6 6 6 a_n e_n)), (a_n, (arI G 36 f_n))] sz)) (va_Qv (fun (u : va_W) => (∃ (o_f : Nat → Int32), (o_f = tset (tset (tset f_n e_n.toInt 6 p_r.toInt (0 : Int32).toInt p_a) e_n.toInt 6 p_r.toInt (1 : Int32).toInt p_b) e_n.toInt 6 p_r.toInt (2 : Int32).toInt p_c) ∧ (u = [(a_t, (oc6 6 6 a_n e_n)), (a_n, (arI G 36 o_f))]))) (g5_B G (va_A [(a_t, (oc6 6 6 a_n e_n)), (a_n, (arI G 36 f_n))] sz)) (va_A [(a_t, (oc6 6 6 a_n e_n)), (a_n, (arI G 36 f_n))] sz)) 0 0 (va_A [(a_t, (oc6 6 6 a_n e_n)), (a_n, (arI G 36 f_n))] sz) := by
  refine Met.ofW (cc := cX6_setLook) (maxL := 5) (ret := none) (by decide) rfl ?_
  intro p e s m args below meth c s₁ B hml hv
  obtain ⟨rfl, hsz, hP, hK, hD0, hN, hT⟩ := hv
  have hx := B.exec
  have hb := B.bytes
  have hr := B.returns
  have hts : ∀ w ∈ tblG, w.before _ s = true := fun w h => atoms_spec (ws := (wsG yX6_setLook cX6_setLook 5 none)) B.pre w (List.mem_cons_of_mem _ h)
  have hown : s.vm.findClass RX6 = some m.cls := findClass_of_methodNamed B.named
  have hlocks := B.notSynchronized
  subst hsz
  have hD := hD0.self (sz := s.heap.size)
  generalize hAe : va_A [(a_t, (oc6 6 6 a_n e_n)), (a_n, (arI G 36 f_n))] s.heap.size = A at hD hT ⊢
  have hA : ∀ q : Nat, s.heap.size ≤ q → A q := fun q h => by rw [← hAe]; exact Or.inr h
  have hS : va_S A s.heap s.heap [] := va_S.rf
  have hP : va_P G.1 vwCl [(a_t, (oc6 6 6 a_n e_n)), (a_n, (arI G 36 f_n))] s.heap := hP
  have hl := lv_entry ([.ref a_t, .int p_r, .int p_a, .int p_b, .int p_c]) (n := 5) (Nat.le_of_ble_eq_true rfl)
  rw [lg_entry_eq]
  generalize (lg_sl ([.ref a_t, .int p_r, .int p_a, .int p_b, .int p_c]) ++ List.replicate (5 - (lg_sl ([.ref a_t, .int p_r, .int p_a, .int p_b, .int p_c])).length) Slot.unset).toArray = ls at hl ⊢
  have hl : lv_has ls 5 [(0, .ref a_t), (1, .int p_r), (2, .int p_a), (3, .int p_b), (4, .int p_c)] := hl
  refine lv_aload_n hx hb dX6_setLook_0 rfl (lv_at hl 0 rfl) ?_
  refine lv_iload_n hx hb dX6_setLook_1 rfl (lv_at hl 1 rfl) ?_
  refine lv_iconst (v := 0) hx hb dX6_setLook_2 (by decide) ?_
  refine lv_iload_n hx hb dX6_setLook_3 rfl (lv_at hl 2 rfl) ?_
  obtain ⟨hPc, hDc, hFc⟩ := g5_sub3 (wc := [(a_t, (oc6 6 6 a_n e_n)), (a_n, (arI G 36 f_n))]) hP hD hS hA [0, 1] (by decide) rfl
  refine va_callv (va_runV (As := [.int p_r, .int 0, .int p_a]) (rest := []) ⟨hx, hb, hml, hown, hts⟩ (t_set_W l G a_t a_n s.heap.size e_n p_r 0 p_a f_n h_e_n) (cwV 3 hts gV_X6_29 rfl rfl rfl hv_X6_set ⟨Nat.le_of_ble_eq_true rfl, Nat.le_of_ble_eq_true rfl⟩) (g5_preV hPc hK hDc hN hT hS hFc (ci := 6) (q0 := 0) rfl rfl) rfl rfl hl.1 rfl (lv_room (Nat.le_of_ble_eq_true rfl)) dX6_setLook_4 ⟨Nat.le_of_ble_eq_true rfl, Nat.le_of_ble_eq_true rfl⟩) hS (fun q _ h => hFc q h) hFc (fun u t H1 locs ht hvm hw hB hz1 hk1 hS => ?_)
  obtain ⟨hP1, hD1⟩ := hB
  rw [ht] at hP1
  obtain ⟨z2, i_1, rfl⟩ := hw
  have i_1 : z2 = tset f_n e_n.toInt 6 p_r.toInt (0 : Int32).toInt p_a := i_1
  obtain ⟨hP, hD⟩ := va_join (wr := []) hP hD [0, 1] [] rfl rfl (by decide) (by decide) hk1 hFc hP1 hD1
  generalize H1 = H at hP hS ⊢
  refine g5_rs [(a_t, (oc6 6 6 a_n e_n)), (a_n, (arI G 36 z2))] hP hD (fun hP hD => ?_)
  refine lv_aload_n hx hb dX6_setLook_7 rfl (lv_at hl 0 rfl) ?_
  refine lv_iload_n hx hb dX6_setLook_8 rfl (lv_at hl 1 rfl) ?_
  refine lv_iconst (v := 1) hx hb dX6_setLook_9 (by decide) ?_
  refine lv_iload_n hx hb dX6_setLook_10 rfl (lv_at hl 3 rfl) ?_
  obtain ⟨hPc, hDc, hFc⟩ := g5_sub3 (wc := [(a_t, (oc6 6 6 a_n e_n)), (a_n, (arI G 36 z2))]) hP hD hS hA [0, 1] (by decide) rfl
  refine va_callv (va_runV (As := [.int p_r, .int 1, .int p_b]) (rest := []) ⟨hx, hb, hml, hown, hts⟩ (t_set_W l G a_t a_n H.size e_n p_r 1 p_b z2 h_e_n) (cwV 3 hts gV_X6_29 rfl rfl rfl hv_X6_set ⟨Nat.le_of_ble_eq_true rfl, Nat.le_of_ble_eq_true rfl⟩) (g5_preV hPc hK hDc hN hT hS hFc (ci := 6) (q0 := 0) rfl rfl) rfl rfl hl.1 rfl (lv_room (Nat.le_of_ble_eq_true rfl)) dX6_setLook_11 ⟨Nat.le_of_ble_eq_true rfl, Nat.le_of_ble_eq_true rfl⟩) hS (fun q _ h => hFc q h) hFc (fun u t H1 locs ht hvm hw hB hz1 hk1 hS => ?_)
  obtain ⟨hP1, hD1⟩ := hB
  rw [ht] at hP1
  obtain ⟨z4, i_3, rfl⟩ := hw
  have i_3 : z4 = tset z2 e_n.toInt 6 p_r.toInt (1 : Int32).toInt p_b := i_3
  obtain ⟨hP, hD⟩ := va_join (wr := []) hP hD [0, 1] [] rfl rfl (by decide) (by decide) hk1 hFc hP1 hD1
  generalize H1 = H at hP hS ⊢
  refine g5_rs [(a_t, (oc6 6 6 a_n e_n)), (a_n, (arI G 36 z4))] hP hD (fun hP hD => ?_)
  refine lv_aload_n hx hb dX6_setLook_14 rfl (lv_at hl 0 rfl) ?_
  refine lv_iload_n hx hb dX6_setLook_15 rfl (lv_at hl 1 rfl) ?_
  refine lv_iconst (v := 2) hx hb dX6_setLook_16 (by decide) ?_
  refine lv_iload hx hb dX6_setLook_17 (lv_at hl 4 rfl) ?_
  obtain ⟨hPc, hDc, hFc⟩ := g5_sub3 (wc := [(a_t, (oc6 6 6 a_n e_n)), (a_n, (arI G 36 z4))]) hP hD hS hA [0, 1] (by decide) rfl
  refine va_callv (va_runV (As := [.int p_r, .int 2, .int p_c]) (rest := []) ⟨hx, hb, hml, hown, hts⟩ (t_set_W l G a_t a_n H.size e_n p_r 2 p_c z4 h_e_n) (cwV 3 hts gV_X6_29 rfl rfl rfl hv_X6_set ⟨Nat.le_of_ble_eq_true rfl, Nat.le_of_ble_eq_true rfl⟩) (g5_preV hPc hK hDc hN hT hS hFc (ci := 6) (q0 := 0) rfl rfl) rfl rfl hl.1 rfl (lv_room (Nat.le_of_ble_eq_true rfl)) dX6_setLook_19 ⟨Nat.le_of_ble_eq_true rfl, Nat.le_of_ble_eq_true rfl⟩) hS (fun q _ h => hFc q h) hFc (fun u t H1 locs ht hvm hw hB hz1 hk1 hS => ?_)
  obtain ⟨hP1, hD1⟩ := hB
  rw [ht] at hP1
  obtain ⟨z6, i_5, rfl⟩ := hw
  have i_5 : z6 = tset z4 e_n.toInt 6 p_r.toInt (2 : Int32).toInt p_c := i_5
  obtain ⟨hP, hD⟩ := va_join (wr := []) hP hD [0, 1] [] rfl rfl (by decide) (by decide) hk1 hFc hP1 hD1
  generalize H1 = H at hP hS ⊢
  refine g5_rs [(a_t, (oc6 6 6 a_n e_n)), (a_n, (arI G 36 z6))] hP hD (fun hP hD => ?_)
  exact W.vret hx hb hr (fun t ht hW => ⟨⟨[(a_t, (oc6 6 6 a_n e_n)), (a_n, (arI G 36 z6))], rfl, ⟨z6, by rw [i_5, i_3, i_1], rfl⟩, by rw [ht]; exact hP.sub [0, 1] rfl, hD.sub [0, 1] (by decide) rfl⟩, hS.F ht⟩) hS.2.2 dX6_setLook_22
set_option maxHeartbeats 4000000 in
set_option maxRecDepth 100000 in
theorem t_open_W (l : Launch) (G : g5_G) (a_t a_n : Nat) (sz : Nat) (e_n : Int32) (p_v : Int32) (f_n : Nat → Int32) (h_e_n : 0 ≤ e_n.toInt ∧ e_n.toInt ≤ 6) : Met l yX6_open (wsG yX6_open cX6_open 4 (some .int)) ({ frames := 2, cells := 0, slots := 0, locals := 44 }) (va_Pc [.ref a_t, .int p_v] (g5_P G [(a_t, (oc6 6 6 a_n e_n)), (a_n, (arI G 36 f_n))] sz)) (va_Qi (fun (r : Int32) (u : va_W) => ((e_n.toInt = 6) ∧ (r = (-1)) ∧ (u = [(a_t, (oc6 6 6 a_n e_n)), (a_n, (arI G 36 f_n))])) ∨ (∃ (o_f : Nat → Int32), (e_n.toInt < 6) ∧ ((e_n + 1).toInt = e_n.toInt + 1) ∧ (o_f = tfil f_n e_n.toInt 6 p_v 6) ∧ (r = e_n) ∧ (u = [(a_t, (oc6 6 6 a_n (e_n + 1))), (a_n, (arI G 36 o_f))]))) (g5_B G (va_A [(a_t, (oc6 6 6 a_n e_n)), (a_n, (arI G 36 f_n))] sz)) (va_A [(a_t, (oc6 6 6 a_n e_n)), (a_n, (arI G 36 f_n))] sz)) 0 0 (va_A [(a_t, (oc6 6 6 a_n e_n)), (a_n, (arI G 36 f_n))] sz) := by
  refine Met.ofW (cc := cX6_open) (maxL := 4) (ret := (some .int)) (by decide) rfl ?_
  intro p e s m args below meth c s₁ B hml hv
  obtain ⟨rfl, hsz, hP, hK, hD0, hN, hT⟩ := hv
  have hx := B.exec
  have hb := B.bytes
  have hr := B.returns
  have hts : ∀ w ∈ tblG, w.before _ s = true := fun w h => atoms_spec (ws := (wsG yX6_open cX6_open 4 (some .int))) B.pre w (List.mem_cons_of_mem _ h)
  have hown : s.vm.findClass RX6 = some m.cls := findClass_of_methodNamed B.named
  have hlocks := B.notSynchronized
  subst hsz
  have hD := hD0.self (sz := s.heap.size)
  generalize hAe : va_A [(a_t, (oc6 6 6 a_n e_n)), (a_n, (arI G 36 f_n))] s.heap.size = A at hD hT ⊢
  have hA : ∀ q : Nat, s.heap.size ≤ q → A q := fun q h => by rw [← hAe]; exact Or.inr h
  have hS : va_S A s.heap s.heap [] := va_S.rf
  have hP : va_P G.1 vwCl [(a_t, (oc6 6 6 a_n e_n)), (a_n, (arI G 36 f_n))] s.heap := hP
  have hl := lv_entry ([.ref a_t, .int p_v]) (n := 4) (Nat.le_of_ble_eq_true rfl)
  rw [lg_entry_eq]
  generalize (lg_sl ([.ref a_t, .int p_v]) ++ List.replicate (4 - (lg_sl ([.ref a_t, .int p_v])).length) Slot.unset).toArray = ls at hl ⊢
  have hl : lv_has ls 4 [(0, .ref a_t), (1, .int p_v)] := hl
  refine lv_aload_n hx hb dX6_open_0 rfl (lv_at hl 0 rfl) ?_
  obtain ⟨hPc, hDc, hFc⟩ := g5_sub3 (wc := [(a_t, (oc6 6 6 a_n e_n))]) hP hD hS hA [0] (by decide) rfl
  refine va_calli (va_runV (As := []) (rest := []) ⟨hx, hb, hml, hown, hts⟩ (t_isFull_W l G a_t a_n s.heap.size e_n h_e_n) (cwV 0 hts gV_X6_33 rfl rfl rfl hv_X6_isFull ⟨Nat.le_of_ble_eq_true rfl, Nat.le_of_ble_eq_true rfl⟩) (g5_preV hPc hK hDc hN hT hS hFc (ci := 6) (q0 := 0) rfl rfl) rfl rfl hl.1 rfl (lv_room (Nat.le_of_ble_eq_true rfl)) dX6_open_1 ⟨Nat.le_of_ble_eq_true rfl, Nat.le_of_ble_eq_true rfl⟩) hS (fun q _ h => hFc q h) hFc (fun r u t H1 locs ht hvm hw hB hz1 hk1 hS => ?_)
  obtain ⟨hP1, hD1⟩ := hB
  rw [ht] at hP1
  rcases hw with ⟨i_1, rfl, rfl⟩ | ⟨i_2, rfl, rfl⟩
  ·
    have i_1 : e_n.toInt = 6 := i_1
    obtain ⟨hP, hD⟩ := va_join (wr := [(a_n, (arI G 36 f_n))]) hP hD [0] [1] rfl rfl (by decide) (by decide) hk1 hFc hP1 hD1
    generalize H1 = H at hP hS ⊢
    refine g5_rs [(a_n, (arI G 36 f_n)), (a_t, (oc6 6 6 a_n e_n))] hP hD (fun hP hD => ?_)
    refine lv_if_eq (tgt := 9) hx hb dX6_open_4 (by decide) (fun c_3 => ?_) (fun c_3 => ?_)
    ·
      exact absurd c_3 (by decide)
    ·
      refine lv_iconst (v := (-1)) hx hb dX6_open_7 (by decide) ?_
      exact W.iret (v := (-1)) hx hb hr (fun t ht hW => ⟨⟨(-1), [(a_t, (oc6 6 6 a_n e_n)), (a_n, (arI G 36 f_n))], rfl, Or.inl (⟨by omega, rfl, rfl⟩), by rw [ht]; exact hP.sub [1, 0] rfl, hD.sub [1, 0] (by decide) rfl⟩, hS.F ht⟩) hS.2.2 dX6_open_8
  ·
    have i_2 : e_n.toInt < 6 := i_2
    obtain ⟨hP, hD⟩ := va_join (wr := [(a_n, (arI G 36 f_n))]) hP hD [0] [1] rfl rfl (by decide) (by decide) hk1 hFc hP1 hD1
    generalize H1 = H at hP hS ⊢
    refine g5_rs [(a_n, (arI G 36 f_n)), (a_t, (oc6 6 6 a_n e_n))] hP hD (fun hP hD => ?_)
    refine lv_if_eq (tgt := 9) hx hb dX6_open_4 (by decide) (fun c_4 => ?_) (fun c_4 => ?_)
    ·
      refine lv_aload_n hx hb dX6_open_9 rfl (lv_at hl 0 rfl) ?_
      refine va_get (D := G.1) (ci := 6) (v := .int e_n) (C := RX6) (T := TX6) (N := 4) hx hb hts inG_X6 hown hK hP 1 rfl rfl 3 (by decide) (hts _ fl_X6_9) (fun _ h9 => h9) rfl dX6_open_10 ?_
      refine lv_istore_n (lv' := [(2, .int e_n), (0, .ref a_t), (1, .int p_v)]) hx hb dX6_open_13 rfl hl (by decide) rfl (fun ls hl => ?_)
      refine lv_aload_n hx hb dX6_open_14 rfl (lv_at hl 1 rfl) ?_
      refine lv_dup hx hb dX6_open_15 rfl ?_
      refine va_get (D := G.1) (ci := 6) (v := .int e_n) (C := RX6) (T := TX6) (N := 4) hx hb hts inG_X6 hown hK hP 1 rfl rfl 3 (by decide) (hts _ fl_X6_9) (fun _ h9 => h9) rfl dX6_open_16 ?_
      refine lv_iconst (v := 1) hx hb dX6_open_19 (by decide) ?_
      refine lv_iadd hx hb dX6_open_20 ?_
      have t_5 : (e_n + 1).toInt = e_n.toInt + 1 := g5_iadd (a := e_n.toInt) (b := 1) (by rfl) (by decide) (by omega) (by omega)
      refine va_put (D := G.1) (ci := 6) (v := .int (e_n + 1)) (ty := .int) (C := RX6) (T := TX6) (N := 4) hx hb hts inG_X6 tyX6 tyX6_ok nmX6 hown hK hP hD hS 1 rfl rfl 3 (by decide) (hts _ fl_X6_9) (fun _ h9 => h9) rfl (by decide +kernel) rfl rfl (Nat.le_of_ble_eq_true rfl) dX6_open_21 (fun H locs hP hD hS => ?_)
      refine g5_rs [(a_n, (arI G 36 f_n)), (a_t, (oc6 6 6 a_n (e_n + 1)))] hP hD (fun hP hD => ?_)
      refine lv_iconst (v := 0) hx hb dX6_open_24 (by decide) ?_
      refine lv_istore_n (lv' := [(3, .int 0), (2, .int e_n), (0, .ref a_t), (1, .int p_v)]) hx hb dX6_open_25 rfl hl (by decide) rfl (fun ls hl => ?_)
      refine g5_loop (α := (Int32) × (Nat → Int32)) (fun (q : (Int32) × (Nat → Int32)) (ls : Array Slot) (H : Heap) (locs : List Loc) => match q with | (k_c, k_f) => lv_has ls 4 [(3, .int k_c), (2, .int e_n), (0, .ref a_t), (1, .int p_v)] ∧ va_P G.1 vwCl [(a_n, (arI G 36 k_f)), (a_t, (oc6 6 6 a_n (e_n + 1)))] H ∧ va_D A [(a_n, (arI G 36 k_f)), (a_t, (oc6 6 6 a_n (e_n + 1)))] ∧ va_S A s.heap H locs ∧ (0 ≤ k_c.toInt ∧ k_c.toInt ≤ 6) ∧ (k_f = tfil f_n e_n.toInt 6 p_v k_c.toInt)) (fun (q : (Int32) × (Nat → Int32)) => match q with | (k_c, k_f) => Int.toNat (6 - k_c.toInt)) (0, f_n) ⟨lv_sub hl [0, 1, 2, 3] rfl, hP, hD, hS, ⟨by decide, by decide⟩, qt_fil0⟩ ?_
      rintro ⟨k_c, k_f⟩ ls H locs ⟨hl, hP, hD, hS, i_6, i_7⟩ ih_26_8
      have hl : lv_has ls 4 [(3, .int k_c), (2, .int e_n), (0, .ref a_t), (1, .int p_v)] := hl
      have i_6 : 0 ≤ k_c.toInt ∧ k_c.toInt ≤ 6 := i_6
      have i_7 : k_f = tfil f_n e_n.toInt 6 p_v k_c.toInt := i_7
      refine g5_rs [(a_n, (arI G 36 k_f)), (a_t, (oc6 6 6 a_n (e_n + 1)))] hP hD (fun hP hD => ?_)
      refine lv_iload_n hx hb dX6_open_26 rfl (lv_at hl 0 rfl) ?_
      refine lv_aload_n hx hb dX6_open_27 rfl (lv_at hl 2 rfl) ?_
      refine va_get (D := G.1) (ci := 6) (v := .int 6) (C := RX6) (T := TX6) (N := 4) hx hb hts inG_X6 hown hK hP 1 rfl rfl 1 (by decide) (hts _ fl_X6_18) (fun _ h9 => h9) rfl dX6_open_28 ?_
      refine lv_icmp_ge (tgt := 47) hx hb dX6_open_31 (by decide) (fun c_9 => ?_) (fun c_9 => ?_)
      ·
        have i_9 : k_c.toInt ≥ 6 := by have z := g5_ge (a := k_c.toInt) (b := 6) (by rfl) (by decide) c_9; omega
        refine lv_iload_n hx hb dX6_open_47 rfl (lv_at hl 1 rfl) ?_
        exact W.iret (v := e_n) hx hb hr (fun t ht hW => ⟨⟨e_n, [(a_t, (oc6 6 6 a_n (e_n + 1))), (a_n, (arI G 36 k_f))], rfl, Or.inr (⟨k_f, by omega, by omega, by rw [i_7, show k_c.toInt = 6 by omega], rfl, rfl⟩), by rw [ht]; exact hP.sub [1, 0] rfl, hD.sub [1, 0] (by decide) rfl⟩, hS.F ht⟩) hS.2.2 dX6_open_48
      ·
        have i_9 : k_c.toInt < 6 := by have z := g5_geN (a := k_c.toInt) (b := 6) (by rfl) (by decide) c_9; omega
        refine lv_aload_n hx hb dX6_open_34 rfl (lv_at hl 2 rfl) ?_
        refine lv_iload_n hx hb dX6_open_35 rfl (lv_at hl 1 rfl) ?_
        refine lv_iload_n hx hb dX6_open_36 rfl (lv_at hl 0 rfl) ?_
        refine lv_iload_n hx hb dX6_open_37 rfl (lv_at hl 3 rfl) ?_
        obtain ⟨hPc, hDc, hFc⟩ := g5_sub3 (wc := [(a_t, (oc6 6 6 a_n (e_n + 1))), (a_n, (arI G 36 k_f))]) hP hD hS hA [1, 0] (by decide) rfl
        refine va_callv (va_runV (As := [.int e_n, .int k_c, .int p_v]) (rest := []) ⟨hx, hb, hml, hown, hts⟩ (t_set_W l G a_t a_n H.size (e_n + 1) e_n k_c p_v k_f ⟨by omega, by omega⟩) (cwV 3 hts gV_X6_29 rfl rfl rfl hv_X6_set ⟨Nat.le_of_ble_eq_true rfl, Nat.le_of_ble_eq_true rfl⟩) (g5_preV hPc hK hDc hN hT hS hFc (ci := 6) (q0 := 0) rfl rfl) rfl rfl hl.1 rfl (lv_room (Nat.le_of_ble_eq_true rfl)) dX6_open_38 ⟨Nat.le_of_ble_eq_true rfl, Nat.le_of_ble_eq_true rfl⟩) hS (fun q _ h => hFc q h) hFc (fun u t H1 locs ht hvm hw hB hz1 hk1 hS => ?_)
        obtain ⟨hP1, hD1⟩ := hB
        rw [ht] at hP1
        obtain ⟨z11, i_10, rfl⟩ := hw
        have i_10 : z11 = tset k_f (e_n + 1).toInt 6 e_n.toInt k_c.toInt p_v := i_10
        obtain ⟨hP, hD⟩ := va_join (wr := []) hP hD [1, 0] [] rfl rfl (by decide) (by decide) hk1 hFc hP1 hD1
        generalize H1 = H at hP hS ⊢
        refine g5_rs [(a_t, (oc6 6 6 a_n (e_n + 1))), (a_n, (arI G 36 z11))] hP hD (fun hP hD => ?_)
        refine lv_iinc (v := (k_c + 1)) (lv' := [(3, .int (k_c + 1)), (2, .int e_n), (0, .ref a_t), (1, .int p_v)]) hx hb dX6_open_41 hl (k := 0) rfl rfl (by decide) rfl (fun ls hl => ?_)
        have t_12 : (k_c + 1).toInt = k_c.toInt + 1 := g5_iadd (a := k_c.toInt) (b := 1) rfl (by decide) (by omega) (by omega)
        refine lv_goto (tgt := 26) hx hb dX6_open_44 (by decide) ?_
        exact ih_26_8 ((k_c + 1), z11) ls H locs (show Int.toNat (6 - (k_c + 1).toInt) < Int.toNat (6 - k_c.toInt) from g_up (show k_c.toInt < (k_c + 1).toInt by omega) (show k_c.toInt < 6 by omega)) ⟨lv_sub hl [0, 1, 2, 3] rfl, hP.sub [1, 0] rfl, hD.sub [1, 0] (by decide) rfl, hS, ⟨by omega, by omega⟩, i_10.trans (qt_filS i_7 (by omega) (by omega) (by omega) (by omega) (by omega))⟩
    ·
      exact absurd c_4 (by decide)
