set_option maxHeartbeats 4000000 in
set_option maxRecDepth 100000 in
theorem t_set_S (l : Launch) (G : g5_G) (a_t a_n : Nat) (sz : Nat) (e_n : Int32) (p_r : Int32) (p_c : Int32) (p_v : Int32) (f_n : Nat → Int32) (h_e_n : 0 ≤ e_n.toInt ∧ e_n.toInt ≤ 10) : Met l yX6_set (wsG yX6_set cX6_set 4 none) ({ frames := 1, cells := 0, slots := 0, locals := 21 }) (va_Pc [.ref a_t, .int p_r, .int p_c, .int p_v] (g5_P G [(a_t, (oc6 10 4 a_n e_n)), (a_n, (arI G 40 f_n))] sz)) (va_Qv (fun (u : va_W) => (∃ (o_f : Nat → Int32), (o_f = tset f_n e_n.toInt 4 p_r.toInt p_c.toInt p_v) ∧ (u = [(a_t, (oc6 10 4 a_n e_n)), (a_n, (arI G 40 o_f))]))) (g5_B G (va_A [(a_t, (oc6 10 4 a_n e_n)), (a_n, (arI G 40 f_n))] sz)) (va_A [(a_t, (oc6 10 4 a_n e_n)), (a_n, (arI G 40 f_n))] sz)) 0 0 (va_A [(a_t, (oc6 10 4 a_n e_n)), (a_n, (arI G 40 f_n))] sz) := by
  refine Met.ofW (cc := cX6_set) (maxL := 4) (ret := none) (by decide +kernel) rfl ?_
  intro p e s m args below meth c s₁ B hml hv
  obtain ⟨rfl, hsz, hP, hK, hD0, hN, hT⟩ := hv
  have hx := B.exec
  have hb := B.bytes
  have hr := B.returns
  have hts : ∀ w ∈ tblG, w.before _ s = true := fun w h => atoms_spec (ws := (wsG yX6_set cX6_set 4 none)) B.pre w (List.mem_cons_of_mem _ h)
  have hown : s.vm.findClass RX6 = some m.cls := findClass_of_methodNamed B.named
  have hlocks := B.notSynchronized
  subst hsz
  have hD := hD0.self (sz := s.heap.size)
  generalize hAe : va_A [(a_t, (oc6 10 4 a_n e_n)), (a_n, (arI G 40 f_n))] s.heap.size = A at hD hT ⊢
  have hA : ∀ q : Nat, s.heap.size ≤ q → A q := fun q h => by rw [← hAe]; exact Or.inr h
  have hS : va_S A s.heap s.heap [] := va_S.rf
  replace hP : va_P G.1 vwCl [(a_t, (oc6 10 4 a_n e_n)), (a_n, (arI G 40 f_n))] s.heap := hP
  have hl := lv_entry ([.ref a_t, .int p_r, .int p_c, .int p_v]) (n := 4) (Nat.le_of_ble_eq_true rfl)
  rw [lg_entry_eq]
  generalize (lg_sl ([.ref a_t, .int p_r, .int p_c, .int p_v]) ++ List.replicate (4 - (lg_sl ([.ref a_t, .int p_r, .int p_c, .int p_v])).length) Slot.unset).toArray = ls at hl ⊢
  replace hl : lv_has ls 4 [(0, .ref a_t), (1, .int p_r), (2, .int p_c), (3, .int p_v)] := hl
  refine lv_aload_n hx hb dX6_set_0 rfl (lv_at hl 0 rfl) ?_
  refine lv_iload_n hx hb dX6_set_1 rfl (lv_at hl 1 rfl) ?_
  obtain ⟨hPc, hDc, hFc⟩ := g5_sub3 (wc := [(a_t, (oc6 10 4 a_n e_n))]) hP hD hS hA [0] (by decide +kernel) rfl
  refine va_calli (va_runV (As := [.int p_r]) (rest := []) ⟨hx, hb, hml, hown, hts⟩ (t_has_S l G a_t a_n s.heap.size e_n p_r h_e_n) (cwV 1 hts gV_X6_25 rfl rfl rfl hv_X6_has ⟨Nat.le_of_ble_eq_true rfl, Nat.le_of_ble_eq_true rfl⟩) (g5_preV hPc hK hDc hN hT hS hFc (ci := 6) (q0 := 0) rfl rfl) rfl rfl hl.1 rfl (lv_room (Nat.le_of_ble_eq_true rfl)) dX6_set_2 ⟨Nat.le_of_ble_eq_true rfl, Nat.le_of_ble_eq_true rfl⟩) hS (fun q _ h => hFc q h) hFc (fun r u t H locs ht hvm hw hB hz1 hk1 hS => ?_)
  obtain ⟨hP1, hD1⟩ := hB
  have hP1 := g5_ht ht hP1
  rcases hw with ⟨(i_1 : 0 ≤ p_r.toInt ∧ p_r.toInt < e_n.toInt), rfl, rfl⟩ | ⟨(i_2 : p_r.toInt < 0 ∨ e_n.toInt ≤ p_r.toInt), rfl, rfl⟩
  ·
    have hJ9 := va_join (wr := [(a_n, (arI G 40 f_n))]) hP hD [0] [1] rfl rfl (by decide +kernel) (by decide +kernel) hk1 hFc hP1 hD1
    clear hP hD hPc hDc hFc ht hvm hz1 hk1 hP1 hD1
    obtain ⟨hP, hD⟩ := hJ9
    refine g5_rs [(a_n, (arI G 40 f_n)), (a_t, (oc6 10 4 a_n e_n))] hP hD ?_
    clear hP hD
    intro hP hD
    refine lv_if_eq (tgt := 34) hx hb dX6_set_5 (by decide +kernel) (fun c_3 => ?_) (fun c_3 => ?_)
    ·
      exact absurd c_3 (by decide +kernel)
    ·
      refine lv_iload_n hx hb dX6_set_8 rfl (lv_at hl 2 rfl) ?_
      refine lv_if_lt (tgt := 34) hx hb dX6_set_9 (by decide +kernel) (fun c_4 => ?_) (fun c_4 => ?_)
      ·
        have i_4 : p_c.toInt < 0 := g5_lt (a := p_c.toInt) (b := 0) rfl (by decide +kernel) c_4
        exact W.vret hx hb hr (fun t ht hW => ⟨⟨[(a_t, (oc6 10 4 a_n e_n)), (a_n, (arI G 40 f_n))], rfl, ⟨f_n, qt_setN (by omega), rfl⟩, by rw [ht]; exact hP.sub [1, 0] rfl, hD.sub [1, 0] (by decide +kernel) rfl⟩, hS.F ht⟩) hS.2.2 dX6_set_34
      ·
        have i_4 : p_c.toInt ≥ 0 := g5_ltN (a := p_c.toInt) (b := 0) rfl (by decide +kernel) c_4
        refine lv_iload_n hx hb dX6_set_12 rfl (lv_at hl 2 rfl) ?_
        refine lv_aload_n hx hb dX6_set_13 rfl (lv_at hl 0 rfl) ?_
        refine va_get (D := G.1) (ci := 6) (v := .int 4) (C := RX6) (T := TX6) (N := 4) hx hb hts inG_X6 hown hK hP 1 rfl rfl 1 (by decide +kernel) (hts _ fl_X6_18) (fun _ h9 => h9) rfl dX6_set_14 ?_
        refine lv_icmp_ge (tgt := 34) hx hb dX6_set_17 (by decide +kernel) (fun c_5 => ?_) (fun c_5 => ?_)
        ·
          have i_5 : p_c.toInt ≥ 4 := g5_ge (a := p_c.toInt) (b := 4) rfl (by decide +kernel) c_5
          exact W.vret hx hb hr (fun t ht hW => ⟨⟨[(a_t, (oc6 10 4 a_n e_n)), (a_n, (arI G 40 f_n))], rfl, ⟨f_n, qt_setN (by omega), rfl⟩, by rw [ht]; exact hP.sub [1, 0] rfl, hD.sub [1, 0] (by decide +kernel) rfl⟩, hS.F ht⟩) hS.2.2 dX6_set_34
        ·
          have i_5 : p_c.toInt < 4 := g5_geN (a := p_c.toInt) (b := 4) rfl (by decide +kernel) c_5
          refine lv_aload_n hx hb dX6_set_20 rfl (lv_at hl 0 rfl) ?_
          refine va_get (D := G.1) (ci := 6) (v := .ref a_n) (C := RX6) (T := TX6) (N := 4) hx hb hts inG_X6 hown hK hP 1 rfl rfl 2 (by decide +kernel) (hts _ fl_X6_21) (fun _ h9 => h9) rfl dX6_set_21 ?_
          refine lv_iload_n hx hb dX6_set_24 rfl (lv_at hl 1 rfl) ?_
          refine lv_aload_n hx hb dX6_set_25 rfl (lv_at hl 0 rfl) ?_
          refine W.eq (g2 := F0 m 26 ls [.ref a_t, .int p_r, .ref a_n]) rfl ?_
          refine va_get (D := G.1) (ci := 6) (v := .int 4) (C := RX6) (T := TX6) (N := 4) hx hb hts inG_X6 hown hK hP 1 rfl rfl 1 (by decide +kernel) (hts _ fl_X6_18) (fun _ h9 => h9) rfl dX6_set_26 ?_
          refine lv_imul hx hb dX6_set_29 ?_
          have t_6 : (p_r * 4).toInt = p_r.toInt * 4 := g5_imul (a := p_r.toInt) (b := 4) (by rfl) (by decide +kernel) (by omega) (by omega)
          refine lv_iload_n hx hb dX6_set_30 rfl (lv_at hl 2 rfl) ?_
          refine lv_iadd hx hb dX6_set_31 ?_
          have t_7 : ((p_r * 4) + p_c).toInt = (p_r * 4).toInt + p_c.toInt := g5_iadd (a := (p_r * 4).toInt) (b := p_c.toInt) (by rfl) (by rfl) (by omega) (by omega)
          refine lv_iload_n hx hb dX6_set_32 rfl (lv_at hl 3 rfl) ?_
          refine W.eq (g2 := F0 m 33 ls [.int p_v, .int ((p_r * 4) + p_c), .ref a_n]) rfl ?_
          refine va_iast hx hb hK hP hD hS 0 0 rfl rfl (i := ((p_r * 4) + p_c)) (x := p_v) (vp_in_iff.mpr ⟨by omega, by omega⟩) dX6_set_33 ?_
          clear hP hD hS
          intro H locs hP hD hS
          refine g5_rs [(a_n, (arI G 40 (upd f_n ((p_r * 4) + p_c).toNatClampNeg p_v))), (a_t, (oc6 10 4 a_n e_n))] hP hD ?_
          clear hP hD
          intro hP hD
          exact W.vret hx hb hr (fun t ht hW => ⟨⟨[(a_t, (oc6 10 4 a_n e_n)), (a_n, (arI G 40 (upd f_n ((p_r * 4) + p_c).toNatClampNeg p_v)))], rfl, ⟨(upd f_n ((p_r * 4) + p_c).toNatClampNeg p_v), qt_set (x := ((p_r * 4) + p_c)) (by omega) (by omega), rfl⟩, by rw [ht]; exact hP.sub [1, 0] rfl, hD.sub [1, 0] (by decide +kernel) rfl⟩, hS.F ht⟩) hS.2.2 dX6_set_34
  ·
    have hJ9 := va_join (wr := [(a_n, (arI G 40 f_n))]) hP hD [0] [1] rfl rfl (by decide +kernel) (by decide +kernel) hk1 hFc hP1 hD1
    clear hP hD hPc hDc hFc ht hvm hz1 hk1 hP1 hD1
    obtain ⟨hP, hD⟩ := hJ9
    refine g5_rs [(a_n, (arI G 40 f_n)), (a_t, (oc6 10 4 a_n e_n))] hP hD ?_
    clear hP hD
    intro hP hD
    refine lv_if_eq (tgt := 34) hx hb dX6_set_5 (by decide +kernel) (fun c_8 => ?_) (fun c_8 => ?_)
    ·
      exact W.vret hx hb hr (fun t ht hW => ⟨⟨[(a_t, (oc6 10 4 a_n e_n)), (a_n, (arI G 40 f_n))], rfl, ⟨f_n, qt_setN (by omega), rfl⟩, by rw [ht]; exact hP.sub [1, 0] rfl, hD.sub [1, 0] (by decide +kernel) rfl⟩, hS.F ht⟩) hS.2.2 dX6_set_34
    ·
      exact absurd c_8 (by decide +kernel)
theorem dgX6_setLook_0 : ∀ r ∈ ([(0, (.aload_n 0, 1)), (1, (.iload_n 1, 1)), (2, (.iconst 0, 1)), (3, (.iload_n 2, 1)), (4, (.invokevirtual 29, 3)), (7, (.aload_n 0, 1)), (8, (.iload_n 1, 1)), (9, (.iconst 1, 1)), (10, (.iload_n 3, 1)), (11, (.invokevirtual 29, 3)), (14, (.aload_n 0, 1)), (15, (.iload_n 1, 1)), (16, (.iconst 2, 1)), (17, (.iload 4, 2)), (19, (.invokevirtual 29, 3)), (22, (.return_, 1))] : List (Nat × (Instr × Nat))), decode cX6_setLook r.1 = .ok r.2 := by decide +kernel
theorem dX6_setLook_0 : decode cX6_setLook 0 = .ok (.aload_n 0, 1) := dgX6_setLook_0 (0, (.aload_n 0, 1)) (List.mem_of_getElem? (i := 0) rfl)
theorem dX6_setLook_1 : decode cX6_setLook 1 = .ok (.iload_n 1, 1) := dgX6_setLook_0 (1, (.iload_n 1, 1)) (List.mem_of_getElem? (i := 1) rfl)
theorem dX6_setLook_2 : decode cX6_setLook 2 = .ok (.iconst 0, 1) := dgX6_setLook_0 (2, (.iconst 0, 1)) (List.mem_of_getElem? (i := 2) rfl)
theorem dX6_setLook_3 : decode cX6_setLook 3 = .ok (.iload_n 2, 1) := dgX6_setLook_0 (3, (.iload_n 2, 1)) (List.mem_of_getElem? (i := 3) rfl)
theorem dX6_setLook_4 : decode cX6_setLook 4 = .ok (.invokevirtual 29, 3) := dgX6_setLook_0 (4, (.invokevirtual 29, 3)) (List.mem_of_getElem? (i := 4) rfl)
theorem dX6_setLook_7 : decode cX6_setLook 7 = .ok (.aload_n 0, 1) := dgX6_setLook_0 (7, (.aload_n 0, 1)) (List.mem_of_getElem? (i := 5) rfl)
theorem dX6_setLook_8 : decode cX6_setLook 8 = .ok (.iload_n 1, 1) := dgX6_setLook_0 (8, (.iload_n 1, 1)) (List.mem_of_getElem? (i := 6) rfl)
theorem dX6_setLook_9 : decode cX6_setLook 9 = .ok (.iconst 1, 1) := dgX6_setLook_0 (9, (.iconst 1, 1)) (List.mem_of_getElem? (i := 7) rfl)
theorem dX6_setLook_10 : decode cX6_setLook 10 = .ok (.iload_n 3, 1) := dgX6_setLook_0 (10, (.iload_n 3, 1)) (List.mem_of_getElem? (i := 8) rfl)
theorem dX6_setLook_11 : decode cX6_setLook 11 = .ok (.invokevirtual 29, 3) := dgX6_setLook_0 (11, (.invokevirtual 29, 3)) (List.mem_of_getElem? (i := 9) rfl)
theorem dX6_setLook_14 : decode cX6_setLook 14 = .ok (.aload_n 0, 1) := dgX6_setLook_0 (14, (.aload_n 0, 1)) (List.mem_of_getElem? (i := 10) rfl)
theorem dX6_setLook_15 : decode cX6_setLook 15 = .ok (.iload_n 1, 1) := dgX6_setLook_0 (15, (.iload_n 1, 1)) (List.mem_of_getElem? (i := 11) rfl)
theorem dX6_setLook_16 : decode cX6_setLook 16 = .ok (.iconst 2, 1) := dgX6_setLook_0 (16, (.iconst 2, 1)) (List.mem_of_getElem? (i := 12) rfl)
theorem dX6_setLook_17 : decode cX6_setLook 17 = .ok (.iload 4, 2) := dgX6_setLook_0 (17, (.iload 4, 2)) (List.mem_of_getElem? (i := 13) rfl)
theorem dX6_setLook_19 : decode cX6_setLook 19 = .ok (.invokevirtual 29, 3) := dgX6_setLook_0 (19, (.invokevirtual 29, 3)) (List.mem_of_getElem? (i := 14) rfl)
theorem dX6_setLook_22 : decode cX6_setLook 22 = .ok (.return_, 1) := dgX6_setLook_0 (22, (.return_, 1)) (List.mem_of_getElem? (i := 15) rfl)
set_option maxHeartbeats 4000000 in
set_option maxRecDepth 100000 in
theorem t_setLook_S (l : Launch) (G : g5_G) (a_t a_n : Nat) (sz : Nat) (e_n : Int32) (p_r : Int32) (p_a : Int32) (p_b : Int32) (p_c : Int32) (f_n : Nat → Int32) (h_e_n : 0 ≤ e_n.toInt ∧ e_n.toInt ≤ 10) : Met l yX6_setLook (wsG yX6_setLook cX6_setLook 5 none) ({ frames := 2, cells := 0, slots := 0, locals := 44 }) (va_Pc [.ref a_t, .int p_r, .int p_a, .int p_b, .int p_c] (g5_P G [(a_t, (oc6 10 4 a_n e_n)), (a_n, (arI G 40 f_n))] sz)) (va_Qv (fun (u : va_W) => (∃ (o_f : Nat → Int32), (o_f = tset (tset (tset f_n e_n.toInt 4 p_r.toInt (0 : Int32).toInt p_a) e_n.toInt 4 p_r.toInt (1 : Int32).toInt p_b) e_n.toInt 4 p_r.toInt (2 : Int32).toInt p_c) ∧ (u = [(a_t, (oc6 10 4 a_n e_n)), (a_n, (arI G 40 o_f))]))) (g5_B G (va_A [(a_t, (oc6 10 4 a_n e_n)), (a_n, (arI G 40 f_n))] sz)) (va_A [(a_t, (oc6 10 4 a_n e_n)), (a_n, (arI G 40 f_n))] sz)) 0 0 (va_A [(a_t, (oc6 10 4 a_n e_n)), (a_n, (arI G 40 f_n))] sz) := by
  refine Met.ofW (cc := cX6_setLook) (maxL := 5) (ret := none) (by decide +kernel) rfl ?_
  intro p e s m args below meth c s₁ B hml hv
  obtain ⟨rfl, hsz, hP, hK, hD0, hN, hT⟩ := hv
  have hx := B.exec
  have hb := B.bytes
  have hr := B.returns
  have hts : ∀ w ∈ tblG, w.before _ s = true := fun w h => atoms_spec (ws := (wsG yX6_setLook cX6_setLook 5 none)) B.pre w (List.mem_cons_of_mem _ h)
  have hown : s.vm.findClass RX6 = some m.cls := findClass_of_methodNamed B.named
  have hlocks := B.notSynchronized
  subst hsz
  have hD := hD0.self (sz := s.heap.size)
  generalize hAe : va_A [(a_t, (oc6 10 4 a_n e_n)), (a_n, (arI G 40 f_n))] s.heap.size = A at hD hT ⊢
  have hA : ∀ q : Nat, s.heap.size ≤ q → A q := fun q h => by rw [← hAe]; exact Or.inr h
  have hS : va_S A s.heap s.heap [] := va_S.rf
  replace hP : va_P G.1 vwCl [(a_t, (oc6 10 4 a_n e_n)), (a_n, (arI G 40 f_n))] s.heap := hP
  have hl := lv_entry ([.ref a_t, .int p_r, .int p_a, .int p_b, .int p_c]) (n := 5) (Nat.le_of_ble_eq_true rfl)
  rw [lg_entry_eq]
  generalize (lg_sl ([.ref a_t, .int p_r, .int p_a, .int p_b, .int p_c]) ++ List.replicate (5 - (lg_sl ([.ref a_t, .int p_r, .int p_a, .int p_b, .int p_c])).length) Slot.unset).toArray = ls at hl ⊢
  replace hl : lv_has ls 5 [(0, .ref a_t), (1, .int p_r), (2, .int p_a), (3, .int p_b), (4, .int p_c)] := hl
  refine lv_aload_n hx hb dX6_setLook_0 rfl (lv_at hl 0 rfl) ?_
  refine lv_iload_n hx hb dX6_setLook_1 rfl (lv_at hl 1 rfl) ?_
  refine lv_iconst (v := 0) hx hb dX6_setLook_2 (by decide +kernel) ?_
  refine lv_iload_n hx hb dX6_setLook_3 rfl (lv_at hl 2 rfl) ?_
  refine W.eq (g2 := F0 m 4 ls [.int p_a, .int 0, .int p_r, .ref a_t]) rfl ?_
  obtain ⟨hPc, hDc, hFc⟩ := g5_sub3 (wc := [(a_t, (oc6 10 4 a_n e_n)), (a_n, (arI G 40 f_n))]) hP hD hS hA [0, 1] (by decide +kernel) rfl
  refine va_callv (va_runV (As := [.int p_r, .int 0, .int p_a]) (rest := []) ⟨hx, hb, hml, hown, hts⟩ (t_set_S l G a_t a_n s.heap.size e_n p_r 0 p_a f_n h_e_n) (cwV 3 hts gV_X6_29 rfl rfl rfl hv_X6_set ⟨Nat.le_of_ble_eq_true rfl, Nat.le_of_ble_eq_true rfl⟩) (g5_preV hPc hK hDc hN hT hS hFc (ci := 6) (q0 := 0) rfl rfl) rfl rfl hl.1 rfl (lv_room (Nat.le_of_ble_eq_true rfl)) dX6_setLook_4 ⟨Nat.le_of_ble_eq_true rfl, Nat.le_of_ble_eq_true rfl⟩) hS (fun q _ h => hFc q h) hFc (fun u t H locs ht hvm hw hB hz1 hk1 hS => ?_)
  obtain ⟨hP1, hD1⟩ := hB
  have hP1 := g5_ht ht hP1
  obtain ⟨z2, (i_1 : z2 = tset f_n e_n.toInt 4 p_r.toInt (0 : Int32).toInt p_a), rfl⟩ := hw
  have hJ9 := va_join (wr := []) hP hD [0, 1] [] rfl rfl (by decide +kernel) (by decide +kernel) hk1 hFc hP1 hD1
  clear hP hD hPc hDc hFc ht hvm hz1 hk1 hP1 hD1
  obtain ⟨hP, hD⟩ := hJ9
  refine g5_rs [(a_t, (oc6 10 4 a_n e_n)), (a_n, (arI G 40 z2))] hP hD ?_
  clear hP hD
  intro hP hD
  refine lv_aload_n hx hb dX6_setLook_7 rfl (lv_at hl 0 rfl) ?_
  refine lv_iload_n hx hb dX6_setLook_8 rfl (lv_at hl 1 rfl) ?_
  refine lv_iconst (v := 1) hx hb dX6_setLook_9 (by decide +kernel) ?_
  refine lv_iload_n hx hb dX6_setLook_10 rfl (lv_at hl 3 rfl) ?_
  refine W.eq (g2 := F0 m 11 ls [.int p_b, .int 1, .int p_r, .ref a_t]) rfl ?_
  obtain ⟨hPc, hDc, hFc⟩ := g5_sub3 (wc := [(a_t, (oc6 10 4 a_n e_n)), (a_n, (arI G 40 z2))]) hP hD hS hA [0, 1] (by decide +kernel) rfl
  refine va_callv (va_runV (As := [.int p_r, .int 1, .int p_b]) (rest := []) ⟨hx, hb, hml, hown, hts⟩ (t_set_S l G a_t a_n H.size e_n p_r 1 p_b z2 h_e_n) (cwV 3 hts gV_X6_29 rfl rfl rfl hv_X6_set ⟨Nat.le_of_ble_eq_true rfl, Nat.le_of_ble_eq_true rfl⟩) (g5_preV hPc hK hDc hN hT hS hFc (ci := 6) (q0 := 0) rfl rfl) rfl rfl hl.1 rfl (lv_room (Nat.le_of_ble_eq_true rfl)) dX6_setLook_11 ⟨Nat.le_of_ble_eq_true rfl, Nat.le_of_ble_eq_true rfl⟩) hS (fun q _ h => hFc q h) hFc (fun u t H locs ht hvm hw hB hz1 hk1 hS => ?_)
  obtain ⟨hP1, hD1⟩ := hB
  have hP1 := g5_ht ht hP1
  obtain ⟨z4, (i_3 : z4 = tset z2 e_n.toInt 4 p_r.toInt (1 : Int32).toInt p_b), rfl⟩ := hw
  have hJ9 := va_join (wr := []) hP hD [0, 1] [] rfl rfl (by decide +kernel) (by decide +kernel) hk1 hFc hP1 hD1
  clear hP hD hPc hDc hFc ht hvm hz1 hk1 hP1 hD1
  obtain ⟨hP, hD⟩ := hJ9
  refine g5_rs [(a_t, (oc6 10 4 a_n e_n)), (a_n, (arI G 40 z4))] hP hD ?_
  clear hP hD
  intro hP hD
  refine lv_aload_n hx hb dX6_setLook_14 rfl (lv_at hl 0 rfl) ?_
  refine lv_iload_n hx hb dX6_setLook_15 rfl (lv_at hl 1 rfl) ?_
  refine lv_iconst (v := 2) hx hb dX6_setLook_16 (by decide +kernel) ?_
  refine lv_iload hx hb dX6_setLook_17 (lv_at hl 4 rfl) ?_
  refine W.eq (g2 := F0 m 19 ls [.int p_c, .int 2, .int p_r, .ref a_t]) rfl ?_
  obtain ⟨hPc, hDc, hFc⟩ := g5_sub3 (wc := [(a_t, (oc6 10 4 a_n e_n)), (a_n, (arI G 40 z4))]) hP hD hS hA [0, 1] (by decide +kernel) rfl
  refine va_callv (va_runV (As := [.int p_r, .int 2, .int p_c]) (rest := []) ⟨hx, hb, hml, hown, hts⟩ (t_set_S l G a_t a_n H.size e_n p_r 2 p_c z4 h_e_n) (cwV 3 hts gV_X6_29 rfl rfl rfl hv_X6_set ⟨Nat.le_of_ble_eq_true rfl, Nat.le_of_ble_eq_true rfl⟩) (g5_preV hPc hK hDc hN hT hS hFc (ci := 6) (q0 := 0) rfl rfl) rfl rfl hl.1 rfl (lv_room (Nat.le_of_ble_eq_true rfl)) dX6_setLook_19 ⟨Nat.le_of_ble_eq_true rfl, Nat.le_of_ble_eq_true rfl⟩) hS (fun q _ h => hFc q h) hFc (fun u t H locs ht hvm hw hB hz1 hk1 hS => ?_)
  obtain ⟨hP1, hD1⟩ := hB
  have hP1 := g5_ht ht hP1
  obtain ⟨z6, (i_5 : z6 = tset z4 e_n.toInt 4 p_r.toInt (2 : Int32).toInt p_c), rfl⟩ := hw
  have hJ9 := va_join (wr := []) hP hD [0, 1] [] rfl rfl (by decide +kernel) (by decide +kernel) hk1 hFc hP1 hD1
  clear hP hD hPc hDc hFc ht hvm hz1 hk1 hP1 hD1
  obtain ⟨hP, hD⟩ := hJ9
  refine g5_rs [(a_t, (oc6 10 4 a_n e_n)), (a_n, (arI G 40 z6))] hP hD ?_
  clear hP hD
  intro hP hD
  exact W.vret hx hb hr (fun t ht hW => ⟨⟨[(a_t, (oc6 10 4 a_n e_n)), (a_n, (arI G 40 z6))], rfl, ⟨z6, by rw [i_5, i_3, i_1], rfl⟩, by rw [ht]; exact hP.sub [0, 1] rfl, hD.sub [0, 1] (by decide +kernel) rfl⟩, hS.F ht⟩) hS.2.2 dX6_setLook_22
set_option maxHeartbeats 4000000 in
set_option maxRecDepth 100000 in
theorem t_open_S (l : Launch) (G : g5_G) (a_t a_n : Nat) (sz : Nat) (e_n : Int32) (p_v : Int32) (f_n : Nat → Int32) (h_e_n : 0 ≤ e_n.toInt ∧ e_n.toInt ≤ 10) : Met l yX6_open (wsG yX6_open cX6_open 4 (some .int)) ({ frames := 2, cells := 0, slots := 0, locals := 44 }) (va_Pc [.ref a_t, .int p_v] (g5_P G [(a_t, (oc6 10 4 a_n e_n)), (a_n, (arI G 40 f_n))] sz)) (va_Qi (fun (r : Int32) (u : va_W) => ((e_n.toInt = 10) ∧ (r = (-1)) ∧ (u = [(a_t, (oc6 10 4 a_n e_n)), (a_n, (arI G 40 f_n))])) ∨ (∃ (o_f : Nat → Int32), (e_n.toInt < 10) ∧ ((e_n + 1).toInt = e_n.toInt + 1) ∧ (o_f = tfil f_n e_n.toInt 4 p_v 4) ∧ (r = e_n) ∧ (u = [(a_t, (oc6 10 4 a_n (e_n + 1))), (a_n, (arI G 40 o_f))]))) (g5_B G (va_A [(a_t, (oc6 10 4 a_n e_n)), (a_n, (arI G 40 f_n))] sz)) (va_A [(a_t, (oc6 10 4 a_n e_n)), (a_n, (arI G 40 f_n))] sz)) 0 0 (va_A [(a_t, (oc6 10 4 a_n e_n)), (a_n, (arI G 40 f_n))] sz) := by
  refine Met.ofW (cc := cX6_open) (maxL := 4) (ret := (some .int)) (by decide +kernel) rfl ?_
  intro p e s m args below meth c s₁ B hml hv
  obtain ⟨rfl, hsz, hP, hK, hD0, hN, hT⟩ := hv
  have hx := B.exec
  have hb := B.bytes
  have hr := B.returns
  have hts : ∀ w ∈ tblG, w.before _ s = true := fun w h => atoms_spec (ws := (wsG yX6_open cX6_open 4 (some .int))) B.pre w (List.mem_cons_of_mem _ h)
  have hown : s.vm.findClass RX6 = some m.cls := findClass_of_methodNamed B.named
  have hlocks := B.notSynchronized
  subst hsz
  have hD := hD0.self (sz := s.heap.size)
  generalize hAe : va_A [(a_t, (oc6 10 4 a_n e_n)), (a_n, (arI G 40 f_n))] s.heap.size = A at hD hT ⊢
  have hA : ∀ q : Nat, s.heap.size ≤ q → A q := fun q h => by rw [← hAe]; exact Or.inr h
  have hS : va_S A s.heap s.heap [] := va_S.rf
  replace hP : va_P G.1 vwCl [(a_t, (oc6 10 4 a_n e_n)), (a_n, (arI G 40 f_n))] s.heap := hP
  have hl := lv_entry ([.ref a_t, .int p_v]) (n := 4) (Nat.le_of_ble_eq_true rfl)
  rw [lg_entry_eq]
  generalize (lg_sl ([.ref a_t, .int p_v]) ++ List.replicate (4 - (lg_sl ([.ref a_t, .int p_v])).length) Slot.unset).toArray = ls at hl ⊢
  replace hl : lv_has ls 4 [(0, .ref a_t), (1, .int p_v)] := hl
  refine lv_aload_n hx hb dX6_open_0 rfl (lv_at hl 0 rfl) ?_
  obtain ⟨hPc, hDc, hFc⟩ := g5_sub3 (wc := [(a_t, (oc6 10 4 a_n e_n))]) hP hD hS hA [0] (by decide +kernel) rfl
  refine va_calli (va_runV (As := []) (rest := []) ⟨hx, hb, hml, hown, hts⟩ (t_isFull_S l G a_t a_n s.heap.size e_n h_e_n) (cwV 0 hts gV_X6_33 rfl rfl rfl hv_X6_isFull ⟨Nat.le_of_ble_eq_true rfl, Nat.le_of_ble_eq_true rfl⟩) (g5_preV hPc hK hDc hN hT hS hFc (ci := 6) (q0 := 0) rfl rfl) rfl rfl hl.1 rfl (lv_room (Nat.le_of_ble_eq_true rfl)) dX6_open_1 ⟨Nat.le_of_ble_eq_true rfl, Nat.le_of_ble_eq_true rfl⟩) hS (fun q _ h => hFc q h) hFc (fun r u t H locs ht hvm hw hB hz1 hk1 hS => ?_)
  obtain ⟨hP1, hD1⟩ := hB
  have hP1 := g5_ht ht hP1
  rcases hw with ⟨(i_1 : e_n.toInt = 10), rfl, rfl⟩ | ⟨(i_2 : e_n.toInt < 10), rfl, rfl⟩
  ·
    have hJ9 := va_join (wr := [(a_n, (arI G 40 f_n))]) hP hD [0] [1] rfl rfl (by decide +kernel) (by decide +kernel) hk1 hFc hP1 hD1
    clear hP hD hPc hDc hFc ht hvm hz1 hk1 hP1 hD1
    obtain ⟨hP, hD⟩ := hJ9
    refine g5_rs [(a_n, (arI G 40 f_n)), (a_t, (oc6 10 4 a_n e_n))] hP hD ?_
    clear hP hD
    intro hP hD
    refine lv_if_eq (tgt := 9) hx hb dX6_open_4 (by decide +kernel) (fun c_3 => ?_) (fun c_3 => ?_)
    ·
      exact absurd c_3 (by decide +kernel)
    ·
      refine lv_iconst (v := (-1)) hx hb dX6_open_7 (by decide +kernel) ?_
      exact W.iret (v := (-1)) hx hb hr (fun t ht hW => ⟨⟨(-1), [(a_t, (oc6 10 4 a_n e_n)), (a_n, (arI G 40 f_n))], rfl, Or.inl (⟨by omega, rfl, rfl⟩), by rw [ht]; exact hP.sub [1, 0] rfl, hD.sub [1, 0] (by decide +kernel) rfl⟩, hS.F ht⟩) hS.2.2 dX6_open_8
  ·
    have hJ9 := va_join (wr := [(a_n, (arI G 40 f_n))]) hP hD [0] [1] rfl rfl (by decide +kernel) (by decide +kernel) hk1 hFc hP1 hD1
    clear hP hD hPc hDc hFc ht hvm hz1 hk1 hP1 hD1
    obtain ⟨hP, hD⟩ := hJ9
    refine g5_rs [(a_n, (arI G 40 f_n)), (a_t, (oc6 10 4 a_n e_n))] hP hD ?_
    clear hP hD
    intro hP hD
    refine lv_if_eq (tgt := 9) hx hb dX6_open_4 (by decide +kernel) (fun c_4 => ?_) (fun c_4 => ?_)
    ·
      refine lv_aload_n hx hb dX6_open_9 rfl (lv_at hl 0 rfl) ?_
      refine va_get (D := G.1) (ci := 6) (v := .int e_n) (C := RX6) (T := TX6) (N := 4) hx hb hts inG_X6 hown hK hP 1 rfl rfl 3 (by decide +kernel) (hts _ fl_X6_9) (fun _ h9 => h9) rfl dX6_open_10 ?_
      refine lv_istore_n (lv' := [(2, .int e_n), (0, .ref a_t), (1, .int p_v)]) hx hb dX6_open_13 rfl hl (by decide +kernel) rfl ?_
      clear hl
      intro ls hl
      refine lv_aload_n hx hb dX6_open_14 rfl (lv_at hl 1 rfl) ?_
      refine W.eq (g2 := F0 m 15 ls [.ref a_t]) rfl ?_
      refine lv_dup hx hb dX6_open_15 rfl ?_
      refine va_get (D := G.1) (ci := 6) (v := .int e_n) (C := RX6) (T := TX6) (N := 4) hx hb hts inG_X6 hown hK hP 1 rfl rfl 3 (by decide +kernel) (hts _ fl_X6_9) (fun _ h9 => h9) rfl dX6_open_16 ?_
      refine lv_iconst (v := 1) hx hb dX6_open_19 (by decide +kernel) ?_
      refine lv_iadd hx hb dX6_open_20 ?_
      have t_5 : (e_n + 1).toInt = e_n.toInt + 1 := g5_iadd (a := e_n.toInt) (b := 1) (by rfl) (by decide +kernel) (by omega) (by omega)
      refine va_put (D := G.1) (ci := 6) (v := .int (e_n + 1)) (ty := .int) (C := RX6) (T := TX6) (N := 4) hx hb hts inG_X6 tyX6 tyX6_ok nmX6 hown hK hP hD hS 1 rfl rfl 3 (by decide +kernel) (hts _ fl_X6_9) (fun _ h9 => h9) rfl (by decide +kernel) rfl rfl (Nat.le_of_ble_eq_true rfl) dX6_open_21 ?_
      clear hP hD hS
      intro H locs hP hD hS
      refine g5_rs [(a_n, (arI G 40 f_n)), (a_t, (oc6 10 4 a_n (e_n + 1)))] hP hD ?_
      clear hP hD
      intro hP hD
      refine W.eq (g2 := F0 m 24 ls []) rfl ?_
      refine lv_iconst (v := 0) hx hb dX6_open_24 (by decide +kernel) ?_
      refine lv_istore_n (lv' := [(3, .int 0), (2, .int e_n), (0, .ref a_t), (1, .int p_v)]) hx hb dX6_open_25 rfl hl (by decide +kernel) rfl ?_
      clear hl
      intro ls hl
      refine g5_loop (α := (Int32) × (Nat → Int32)) (fun (q : (Int32) × (Nat → Int32)) (ls : Array Slot) (H : Heap) (locs : List Loc) => match q with | (k_c, k_f) => lv_has ls 4 [(3, .int k_c), (2, .int e_n), (0, .ref a_t), (1, .int p_v)] ∧ va_P G.1 vwCl [(a_n, (arI G 40 k_f)), (a_t, (oc6 10 4 a_n (e_n + 1)))] H ∧ va_D A [(a_n, (arI G 40 k_f)), (a_t, (oc6 10 4 a_n (e_n + 1)))] ∧ va_S A s.heap H locs ∧ (0 ≤ k_c.toInt ∧ k_c.toInt ≤ 4) ∧ (k_f = tfil f_n e_n.toInt 4 p_v k_c.toInt)) (fun (q : (Int32) × (Nat → Int32)) => match q with | (k_c, k_f) => Int.toNat (4 - k_c.toInt)) (0, f_n) ⟨lv_sub hl [0, 1, 2, 3] rfl, hP, hD, hS, ⟨by decide, by decide⟩, qt_fil0⟩ ?_
      rintro ⟨k_c, k_f⟩ ls H locs ⟨hl, hP, hD, hS, (i_6 : 0 ≤ k_c.toInt ∧ k_c.toInt ≤ 4), (i_7 : k_f = tfil f_n e_n.toInt 4 p_v k_c.toInt)⟩ ih_26_8
      replace hl : lv_has ls 4 [(3, .int k_c), (2, .int e_n), (0, .ref a_t), (1, .int p_v)] := hl
      refine g5_rs [(a_n, (arI G 40 k_f)), (a_t, (oc6 10 4 a_n (e_n + 1)))] hP hD ?_
      clear hP hD
      intro hP hD
      refine lv_iload_n hx hb dX6_open_26 rfl (lv_at hl 0 rfl) ?_
      refine lv_aload_n hx hb dX6_open_27 rfl (lv_at hl 2 rfl) ?_
      refine va_get (D := G.1) (ci := 6) (v := .int 4) (C := RX6) (T := TX6) (N := 4) hx hb hts inG_X6 hown hK hP 1 rfl rfl 1 (by decide +kernel) (hts _ fl_X6_18) (fun _ h9 => h9) rfl dX6_open_28 ?_
      refine lv_icmp_ge (tgt := 47) hx hb dX6_open_31 (by decide +kernel) (fun c_9 => ?_) (fun c_9 => ?_)
      ·
        have i_9 : k_c.toInt ≥ 4 := g5_ge (a := k_c.toInt) (b := 4) rfl (by decide +kernel) c_9
        refine lv_iload_n hx hb dX6_open_47 rfl (lv_at hl 1 rfl) ?_
        exact W.iret (v := e_n) hx hb hr (fun t ht hW => ⟨⟨e_n, [(a_t, (oc6 10 4 a_n (e_n + 1))), (a_n, (arI G 40 k_f))], rfl, Or.inr (⟨k_f, by omega, by omega, by rw [i_7, show k_c.toInt = 4 by omega], rfl, rfl⟩), by rw [ht]; exact hP.sub [1, 0] rfl, hD.sub [1, 0] (by decide +kernel) rfl⟩, hS.F ht⟩) hS.2.2 dX6_open_48
      ·
        have i_9 : k_c.toInt < 4 := g5_geN (a := k_c.toInt) (b := 4) rfl (by decide +kernel) c_9
        refine lv_aload_n hx hb dX6_open_34 rfl (lv_at hl 2 rfl) ?_
        refine lv_iload_n hx hb dX6_open_35 rfl (lv_at hl 1 rfl) ?_
        refine lv_iload_n hx hb dX6_open_36 rfl (lv_at hl 0 rfl) ?_
        refine lv_iload_n hx hb dX6_open_37 rfl (lv_at hl 3 rfl) ?_
        refine W.eq (g2 := F0 m 38 ls [.int p_v, .int k_c, .int e_n, .ref a_t]) rfl ?_
        obtain ⟨hPc, hDc, hFc⟩ := g5_sub3 (wc := [(a_t, (oc6 10 4 a_n (e_n + 1))), (a_n, (arI G 40 k_f))]) hP hD hS hA [1, 0] (by decide +kernel) rfl
        refine va_callv (va_runV (As := [.int e_n, .int k_c, .int p_v]) (rest := []) ⟨hx, hb, hml, hown, hts⟩ (t_set_S l G a_t a_n H.size (e_n + 1) e_n k_c p_v k_f ⟨by omega, by omega⟩) (cwV 3 hts gV_X6_29 rfl rfl rfl hv_X6_set ⟨Nat.le_of_ble_eq_true rfl, Nat.le_of_ble_eq_true rfl⟩) (g5_preV hPc hK hDc hN hT hS hFc (ci := 6) (q0 := 0) rfl rfl) rfl rfl hl.1 rfl (lv_room (Nat.le_of_ble_eq_true rfl)) dX6_open_38 ⟨Nat.le_of_ble_eq_true rfl, Nat.le_of_ble_eq_true rfl⟩) hS (fun q _ h => hFc q h) hFc (fun u t H locs ht hvm hw hB hz1 hk1 hS => ?_)
        obtain ⟨hP1, hD1⟩ := hB
        have hP1 := g5_ht ht hP1
        obtain ⟨z11, (i_10 : z11 = tset k_f (e_n + 1).toInt 4 e_n.toInt k_c.toInt p_v), rfl⟩ := hw
        have hJ9 := va_join (wr := []) hP hD [1, 0] [] rfl rfl (by decide +kernel) (by decide +kernel) hk1 hFc hP1 hD1
        clear hP hD hPc hDc hFc ht hvm hz1 hk1 hP1 hD1
        obtain ⟨hP, hD⟩ := hJ9
        refine g5_rs [(a_t, (oc6 10 4 a_n (e_n + 1))), (a_n, (arI G 40 z11))] hP hD ?_
        clear hP hD
        intro hP hD
        refine lv_iinc (v := (k_c + 1)) (lv' := [(3, .int (k_c + 1)), (2, .int e_n), (0, .ref a_t), (1, .int p_v)]) hx hb dX6_open_41 hl (k := 0) rfl rfl (by decide +kernel) rfl ?_
        clear hl
        intro ls hl
        have t_12 : (k_c + 1).toInt = k_c.toInt + 1 := g5_iadd (a := k_c.toInt) (b := 1) rfl (by decide +kernel) (by omega) (by omega)
        refine lv_goto (tgt := 26) hx hb dX6_open_44 (by decide +kernel) ?_
        exact ih_26_8 ((k_c + 1), z11) ls H locs (show Int.toNat (4 - (k_c + 1).toInt) < Int.toNat (4 - k_c.toInt) from g_up (show k_c.toInt < (k_c + 1).toInt by omega) (show k_c.toInt < 4 by omega)) ⟨lv_sub hl [0, 1, 2, 3] rfl, hP.sub [1, 0] rfl, hD.sub [1, 0] (by decide +kernel) rfl, hS, ⟨by omega, by omega⟩, i_10.trans (qt_filS i_7 (by omega) (by omega) (by omega) (by omega) (by omega))⟩
    ·
      exact absurd c_4 (by decide +kernel)
set_option maxHeartbeats 4000000 in
set_option maxRecDepth 100000 in
theorem t_has_P (l : Launch) (G : g5_G) (a_t a_n : Nat) (sz : Nat) (e_n : Int32) (p_r : Int32) (h_e_n : 0 ≤ e_n.toInt ∧ e_n.toInt ≤ 8) : Met l yX6_has (wsG yX6_has cX6_has 2 (some .boolean)) ({ frames := 0, cells := 0, slots := 0, locals := 0 }) (va_Pc [.ref a_t, .int p_r] (g5_P G [(a_t, (oc6 8 5 a_n e_n))] sz)) (va_Qi (fun (r : Int32) (u : va_W) => ((0 ≤ p_r.toInt ∧ p_r.toInt < e_n.toInt) ∧ (r = 1) ∧ (u = [(a_t, (oc6 8 5 a_n e_n))])) ∨ ((p_r.toInt < 0 ∨ e_n.toInt ≤ p_r.toInt) ∧ (r = 0) ∧ (u = [(a_t, (oc6 8 5 a_n e_n))]))) (g5_B G (va_A [(a_t, (oc6 8 5 a_n e_n))] sz)) (va_A [(a_t, (oc6 8 5 a_n e_n))] sz)) 0 0 (va_A [(a_t, (oc6 8 5 a_n e_n))] sz) := by
  refine Met.ofW (cc := cX6_has) (maxL := 2) (ret := (some .boolean)) (by decide) rfl ?_
  intro p e s m args below meth c s₁ B hml hv
  obtain ⟨rfl, hsz, hP, hK, hD0, hN, hT⟩ := hv
  have hx := B.exec
  have hb := B.bytes
  have hr := B.returns
  have hts : ∀ w ∈ tblG, w.before _ s = true := fun w h => atoms_spec (ws := (wsG yX6_has cX6_has 2 (some .boolean))) B.pre w (List.mem_cons_of_mem _ h)
  have hown : s.vm.findClass RX6 = some m.cls := findClass_of_methodNamed B.named
  have hlocks := B.notSynchronized
  subst hsz
  have hD := hD0.self (sz := s.heap.size)
  generalize hAe : va_A [(a_t, (oc6 8 5 a_n e_n))] s.heap.size = A at hD hT ⊢
  have hA : ∀ q : Nat, s.heap.size ≤ q → A q := fun q h => by rw [← hAe]; exact Or.inr h
  have hS : va_S A s.heap s.heap [] := va_S.rf
  have hP : va_P G.1 vwCl [(a_t, (oc6 8 5 a_n e_n))] s.heap := hP
  have hl := lv_entry ([.ref a_t, .int p_r]) (n := 2) (Nat.le_of_ble_eq_true rfl)
  rw [lg_entry_eq]
  generalize (lg_sl ([.ref a_t, .int p_r]) ++ List.replicate (2 - (lg_sl ([.ref a_t, .int p_r])).length) Slot.unset).toArray = ls at hl ⊢
  have hl : lv_has ls 2 [(0, .ref a_t), (1, .int p_r)] := hl
  refine lv_iload_n hx hb dX6_has_0 rfl (lv_at hl 1 rfl) ?_
  refine lv_if_lt (tgt := 16) hx hb dX6_has_1 (by decide) (fun c_1 => ?_) (fun c_1 => ?_)
  ·
    have i_1 : p_r.toInt < 0 := by have z := g5_lt (a := p_r.toInt) (b := 0) (by rfl) (by decide) c_1; omega
    refine lv_iconst (v := 0) hx hb dX6_has_16 (by decide) ?_
    exact W.zret (v := 0) hx hb hr rfl (fun t ht hW => ⟨⟨0, [(a_t, (oc6 8 5 a_n e_n))], rfl, Or.inr (⟨by omega, rfl, rfl⟩), by rw [ht]; exact hP.sub [0] rfl, hD.sub [0] (by decide) rfl⟩, hS.F ht⟩) hS.2.2 dX6_has_17
  ·
    have i_1 : p_r.toInt ≥ 0 := by have z := g5_ltN (a := p_r.toInt) (b := 0) (by rfl) (by decide) c_1; omega
    refine lv_iload_n hx hb dX6_has_4 rfl (lv_at hl 1 rfl) ?_
    refine lv_aload_n hx hb dX6_has_5 rfl (lv_at hl 0 rfl) ?_
    refine va_get (D := G.1) (ci := 6) (v := .int e_n) (C := RX6) (T := TX6) (N := 4) hx hb hts inG_X6 hown hK hP 0 rfl rfl 3 (by decide) (hts _ fl_X6_9) (fun _ h9 => h9) rfl dX6_has_6 ?_
    refine lv_icmp_ge (tgt := 16) hx hb dX6_has_9 (by decide) (fun c_2 => ?_) (fun c_2 => ?_)
    ·
      have i_2 : p_r.toInt ≥ e_n.toInt := by have z := g5_ge (a := p_r.toInt) (b := e_n.toInt) (by rfl) (by rfl) c_2; omega
      refine lv_iconst (v := 0) hx hb dX6_has_16 (by decide) ?_
      exact W.zret (v := 0) hx hb hr rfl (fun t ht hW => ⟨⟨0, [(a_t, (oc6 8 5 a_n e_n))], rfl, Or.inr (⟨by omega, rfl, rfl⟩), by rw [ht]; exact hP.sub [0] rfl, hD.sub [0] (by decide) rfl⟩, hS.F ht⟩) hS.2.2 dX6_has_17
    ·
      have i_2 : p_r.toInt < e_n.toInt := by have z := g5_geN (a := p_r.toInt) (b := e_n.toInt) (by rfl) (by rfl) c_2; omega
      refine lv_iconst (v := 1) hx hb dX6_has_12 (by decide) ?_
      refine lv_goto (tgt := 17) hx hb dX6_has_13 (by decide) ?_
      exact W.zret (v := 1) hx hb hr rfl (fun t ht hW => ⟨⟨1, [(a_t, (oc6 8 5 a_n e_n))], rfl, Or.inl (⟨by omega, rfl, rfl⟩), by rw [ht]; exact hP.sub [0] rfl, hD.sub [0] (by decide) rfl⟩, hS.F ht⟩) hS.2.2 dX6_has_17
set_option maxHeartbeats 4000000 in
set_option maxRecDepth 100000 in
theorem t_isFull_P (l : Launch) (G : g5_G) (a_t a_n : Nat) (sz : Nat) (e_n : Int32) (h_e_n : 0 ≤ e_n.toInt ∧ e_n.toInt ≤ 8) : Met l yX6_isFull (wsG yX6_isFull cX6_isFull 1 (some .boolean)) ({ frames := 0, cells := 0, slots := 0, locals := 0 }) (va_Pc [.ref a_t] (g5_P G [(a_t, (oc6 8 5 a_n e_n))] sz)) (va_Qi (fun (r : Int32) (u : va_W) => ((e_n.toInt = 8) ∧ (r = 1) ∧ (u = [(a_t, (oc6 8 5 a_n e_n))])) ∨ ((e_n.toInt < 8) ∧ (r = 0) ∧ (u = [(a_t, (oc6 8 5 a_n e_n))]))) (g5_B G (va_A [(a_t, (oc6 8 5 a_n e_n))] sz)) (va_A [(a_t, (oc6 8 5 a_n e_n))] sz)) 0 0 (va_A [(a_t, (oc6 8 5 a_n e_n))] sz) := by
  refine Met.ofW (cc := cX6_isFull) (maxL := 1) (ret := (some .boolean)) (by decide) rfl ?_
  intro p e s m args below meth c s₁ B hml hv
  obtain ⟨rfl, hsz, hP, hK, hD0, hN, hT⟩ := hv
  have hx := B.exec
  have hb := B.bytes
  have hr := B.returns
  have hts : ∀ w ∈ tblG, w.before _ s = true := fun w h => atoms_spec (ws := (wsG yX6_isFull cX6_isFull 1 (some .boolean))) B.pre w (List.mem_cons_of_mem _ h)
  have hown : s.vm.findClass RX6 = some m.cls := findClass_of_methodNamed B.named
  have hlocks := B.notSynchronized
  subst hsz
  have hD := hD0.self (sz := s.heap.size)
  generalize hAe : va_A [(a_t, (oc6 8 5 a_n e_n))] s.heap.size = A at hD hT ⊢
  have hA : ∀ q : Nat, s.heap.size ≤ q → A q := fun q h => by rw [← hAe]; exact Or.inr h
  have hS : va_S A s.heap s.heap [] := va_S.rf
  have hP : va_P G.1 vwCl [(a_t, (oc6 8 5 a_n e_n))] s.heap := hP
  have hl := lv_entry ([.ref a_t]) (n := 1) (Nat.le_of_ble_eq_true rfl)
  rw [lg_entry_eq]
  generalize (lg_sl ([.ref a_t]) ++ List.replicate (1 - (lg_sl ([.ref a_t])).length) Slot.unset).toArray = ls at hl ⊢
  have hl : lv_has ls 1 [(0, .ref a_t)] := hl
  refine lv_aload_n hx hb dX6_isFull_0 rfl (lv_at hl 0 rfl) ?_
  refine va_get (D := G.1) (ci := 6) (v := .int e_n) (C := RX6) (T := TX6) (N := 4) hx hb hts inG_X6 hown hK hP 0 rfl rfl 3 (by decide) (hts _ fl_X6_9) (fun _ h9 => h9) rfl dX6_isFull_1 ?_
  refine lv_aload_n hx hb dX6_isFull_4 rfl (lv_at hl 0 rfl) ?_
  refine va_get (D := G.1) (ci := 6) (v := .int 8) (C := RX6) (T := TX6) (N := 4) hx hb hts inG_X6 hown hK hP 0 rfl rfl 0 (by decide) (hts _ fl_X6_15) (fun _ h9 => h9) rfl dX6_isFull_5 ?_
  refine W.eq (g2 := F0 m 8 ls [.int 8, .int e_n]) rfl ?_
  refine lv_icmp_lt (tgt := 15) hx hb dX6_isFull_8 (by decide) (fun c_1 => ?_) (fun c_1 => ?_)
  ·
    have i_1 : e_n.toInt < 8 := by have z := g5_lt (a := e_n.toInt) (b := 8) (by rfl) (by decide) c_1; omega
    refine lv_iconst (v := 0) hx hb dX6_isFull_15 (by decide) ?_
    exact W.zret (v := 0) hx hb hr rfl (fun t ht hW => ⟨⟨0, [(a_t, (oc6 8 5 a_n e_n))], rfl, Or.inr (⟨by omega, rfl, rfl⟩), by rw [ht]; exact hP.sub [0] rfl, hD.sub [0] (by decide) rfl⟩, hS.F ht⟩) hS.2.2 dX6_isFull_16
  ·
    have i_1 : e_n.toInt ≥ 8 := by have z := g5_ltN (a := e_n.toInt) (b := 8) (by rfl) (by decide) c_1; omega
    refine lv_iconst (v := 1) hx hb dX6_isFull_11 (by decide) ?_
    refine lv_goto (tgt := 16) hx hb dX6_isFull_12 (by decide) ?_
    exact W.zret (v := 1) hx hb hr rfl (fun t ht hW => ⟨⟨1, [(a_t, (oc6 8 5 a_n e_n))], rfl, Or.inl (⟨by omega, rfl, rfl⟩), by rw [ht]; exact hP.sub [0] rfl, hD.sub [0] (by decide) rfl⟩, hS.F ht⟩) hS.2.2 dX6_isFull_16
set_option maxHeartbeats 4000000 in
set_option maxRecDepth 100000 in
theorem t_get_P (l : Launch) (G : g5_G) (a_t a_n : Nat) (sz : Nat) (e_n : Int32) (p_r : Int32) (p_c : Int32) (f_n : Nat → Int32) (h_e_n : 0 ≤ e_n.toInt ∧ e_n.toInt ≤ 8) : Met l yX6_get (wsG yX6_get cX6_get 3 (some .int)) ({ frames := 0, cells := 0, slots := 0, locals := 0 }) (va_Pc [.ref a_t, .int p_r, .int p_c] (g5_P G [(a_t, (oc6 8 5 a_n e_n)), (a_n, (arI G 40 f_n))] sz)) (va_Qi (fun (r : Int32) (u : va_W) => (∃ (o_r : Int32), (o_r = tget f_n e_n.toInt 5 p_r.toInt p_c.toInt) ∧ (r = o_r) ∧ (u = [(a_t, (oc6 8 5 a_n e_n)), (a_n, (arI G 40 f_n))]))) (g5_B G (va_A [(a_t, (oc6 8 5 a_n e_n)), (a_n, (arI G 40 f_n))] sz)) (va_A [(a_t, (oc6 8 5 a_n e_n)), (a_n, (arI G 40 f_n))] sz)) 0 0 (va_A [(a_t, (oc6 8 5 a_n e_n)), (a_n, (arI G 40 f_n))] sz) := by
  refine Met.ofW (cc := cX6_get) (maxL := 3) (ret := (some .int)) (by decide) rfl ?_
  intro p e s m args below meth c s₁ B hml hv
  obtain ⟨rfl, hsz, hP, hK, hD0, hN, hT⟩ := hv
  have hx := B.exec
  have hb := B.bytes
  have hr := B.returns
  have hts : ∀ w ∈ tblG, w.before _ s = true := fun w h => atoms_spec (ws := (wsG yX6_get cX6_get 3 (some .int))) B.pre w (List.mem_cons_of_mem _ h)
  have hown : s.vm.findClass RX6 = some m.cls := findClass_of_methodNamed B.named
  have hlocks := B.notSynchronized
  subst hsz
  have hD := hD0.self (sz := s.heap.size)
  generalize hAe : va_A [(a_t, (oc6 8 5 a_n e_n)), (a_n, (arI G 40 f_n))] s.heap.size = A at hD hT ⊢
  have hA : ∀ q : Nat, s.heap.size ≤ q → A q := fun q h => by rw [← hAe]; exact Or.inr h
  have hS : va_S A s.heap s.heap [] := va_S.rf
  have hP : va_P G.1 vwCl [(a_t, (oc6 8 5 a_n e_n)), (a_n, (arI G 40 f_n))] s.heap := hP
  have hl := lv_entry ([.ref a_t, .int p_r, .int p_c]) (n := 3) (Nat.le_of_ble_eq_true rfl)
  rw [lg_entry_eq]
  generalize (lg_sl ([.ref a_t, .int p_r, .int p_c]) ++ List.replicate (3 - (lg_sl ([.ref a_t, .int p_r, .int p_c])).length) Slot.unset).toArray = ls at hl ⊢
  have hl : lv_has ls 3 [(0, .ref a_t), (1, .int p_r), (2, .int p_c)] := hl
  refine lv_iload_n hx hb dX6_get_0 rfl (lv_at hl 1 rfl) ?_
  refine lv_if_lt (tgt := 24) hx hb dX6_get_1 (by decide) (fun c_1 => ?_) (fun c_1 => ?_)
  ·
    have i_1 : p_r.toInt < 0 := by have z := g5_lt (a := p_r.toInt) (b := 0) (by rfl) (by decide) c_1; omega
    refine lv_iconst (v := (-1)) hx hb dX6_get_24 (by decide) ?_
    exact W.iret (v := (-1)) hx hb hr (fun t ht hW => ⟨⟨(-1), [(a_t, (oc6 8 5 a_n e_n)), (a_n, (arI G 40 f_n))], rfl, ⟨(-1), qt_getN (by omega), rfl, rfl⟩, by rw [ht]; exact hP.sub [0, 1] rfl, hD.sub [0, 1] (by decide) rfl⟩, hS.F ht⟩) hS.2.2 dX6_get_25
  ·
    have i_1 : p_r.toInt ≥ 0 := by have z := g5_ltN (a := p_r.toInt) (b := 0) (by rfl) (by decide) c_1; omega
    refine lv_iload_n hx hb dX6_get_4 rfl (lv_at hl 1 rfl) ?_
    refine lv_aload_n hx hb dX6_get_5 rfl (lv_at hl 0 rfl) ?_
    refine va_get (D := G.1) (ci := 6) (v := .int e_n) (C := RX6) (T := TX6) (N := 4) hx hb hts inG_X6 hown hK hP 0 rfl rfl 3 (by decide) (hts _ fl_X6_9) (fun _ h9 => h9) rfl dX6_get_6 ?_
    refine lv_icmp_ge (tgt := 24) hx hb dX6_get_9 (by decide) (fun c_2 => ?_) (fun c_2 => ?_)
    ·
      have i_2 : p_r.toInt ≥ e_n.toInt := by have z := g5_ge (a := p_r.toInt) (b := e_n.toInt) (by rfl) (by rfl) c_2; omega
      refine lv_iconst (v := (-1)) hx hb dX6_get_24 (by decide) ?_
      exact W.iret (v := (-1)) hx hb hr (fun t ht hW => ⟨⟨(-1), [(a_t, (oc6 8 5 a_n e_n)), (a_n, (arI G 40 f_n))], rfl, ⟨(-1), qt_getN (by omega), rfl, rfl⟩, by rw [ht]; exact hP.sub [0, 1] rfl, hD.sub [0, 1] (by decide) rfl⟩, hS.F ht⟩) hS.2.2 dX6_get_25
    ·
      have i_2 : p_r.toInt < e_n.toInt := by have z := g5_geN (a := p_r.toInt) (b := e_n.toInt) (by rfl) (by rfl) c_2; omega
      refine lv_iload_n hx hb dX6_get_12 rfl (lv_at hl 2 rfl) ?_
      refine lv_if_lt (tgt := 24) hx hb dX6_get_13 (by decide) (fun c_3 => ?_) (fun c_3 => ?_)
      ·
        have i_3 : p_c.toInt < 0 := by have z := g5_lt (a := p_c.toInt) (b := 0) (by rfl) (by decide) c_3; omega
        refine lv_iconst (v := (-1)) hx hb dX6_get_24 (by decide) ?_
        exact W.iret (v := (-1)) hx hb hr (fun t ht hW => ⟨⟨(-1), [(a_t, (oc6 8 5 a_n e_n)), (a_n, (arI G 40 f_n))], rfl, ⟨(-1), qt_getN (by omega), rfl, rfl⟩, by rw [ht]; exact hP.sub [0, 1] rfl, hD.sub [0, 1] (by decide) rfl⟩, hS.F ht⟩) hS.2.2 dX6_get_25
      ·
        have i_3 : p_c.toInt ≥ 0 := by have z := g5_ltN (a := p_c.toInt) (b := 0) (by rfl) (by decide) c_3; omega
        refine lv_iload_n hx hb dX6_get_16 rfl (lv_at hl 2 rfl) ?_
        refine lv_aload_n hx hb dX6_get_17 rfl (lv_at hl 0 rfl) ?_
        refine va_get (D := G.1) (ci := 6) (v := .int 5) (C := RX6) (T := TX6) (N := 4) hx hb hts inG_X6 hown hK hP 0 rfl rfl 1 (by decide) (hts _ fl_X6_18) (fun _ h9 => h9) rfl dX6_get_18 ?_
        refine lv_icmp_lt (tgt := 26) hx hb dX6_get_21 (by decide) (fun c_4 => ?_) (fun c_4 => ?_)
        ·
          have i_4 : p_c.toInt < 5 := by have z := g5_lt (a := p_c.toInt) (b := 5) (by rfl) (by decide) c_4; omega
          refine lv_aload_n hx hb dX6_get_26 rfl (lv_at hl 0 rfl) ?_
          refine va_get (D := G.1) (ci := 6) (v := .ref a_n) (C := RX6) (T := TX6) (N := 4) hx hb hts inG_X6 hown hK hP 0 rfl rfl 2 (by decide) (hts _ fl_X6_21) (fun _ h9 => h9) rfl dX6_get_27 ?_
          refine lv_iload_n hx hb dX6_get_30 rfl (lv_at hl 1 rfl) ?_
          refine lv_aload_n hx hb dX6_get_31 rfl (lv_at hl 0 rfl) ?_
          refine W.eq (g2 := F0 m 32 ls [.ref a_t, .int p_r, .ref a_n]) rfl ?_
          refine va_get (D := G.1) (ci := 6) (v := .int 5) (C := RX6) (T := TX6) (N := 4) hx hb hts inG_X6 hown hK hP 0 rfl rfl 1 (by decide) (hts _ fl_X6_18) (fun _ h9 => h9) rfl dX6_get_32 ?_
          refine lv_imul hx hb dX6_get_35 ?_
          have t_5 : (p_r * 5).toInt = p_r.toInt * 5 := g5_imul (a := p_r.toInt) (b := 5) (by rfl) (by decide) (by omega) (by omega)
          refine lv_iload_n hx hb dX6_get_36 rfl (lv_at hl 2 rfl) ?_
          refine lv_iadd hx hb dX6_get_37 ?_
          have t_6 : ((p_r * 5) + p_c).toInt = (p_r * 5).toInt + p_c.toInt := g5_iadd (a := (p_r * 5).toInt) (b := p_c.toInt) (by rfl) (by rfl) (by omega) (by omega)
          refine va_iald hx hb hK hP 1 0 rfl rfl (i := ((p_r * 5) + p_c)) (vp_in_iff.mpr ⟨by omega, by omega⟩) dX6_get_38 ?_
          refine W.eq (g2 := F0 m 39 ls [.int (f_n ((p_r * 5) + p_c).toNatClampNeg)]) rfl ?_
          exact W.iret (v := (f_n ((p_r * 5) + p_c).toNatClampNeg)) hx hb hr (fun t ht hW => ⟨⟨(f_n ((p_r * 5) + p_c).toNatClampNeg), [(a_t, (oc6 8 5 a_n e_n)), (a_n, (arI G 40 f_n))], rfl, ⟨(f_n ((p_r * 5) + p_c).toNatClampNeg), qt_get (x := ((p_r * 5) + p_c)) (by omega) (by omega), rfl, rfl⟩, by rw [ht]; exact hP.sub [0, 1] rfl, hD.sub [0, 1] (by decide) rfl⟩, hS.F ht⟩) hS.2.2 dX6_get_39
        ·
          have i_4 : p_c.toInt ≥ 5 := by have z := g5_ltN (a := p_c.toInt) (b := 5) (by rfl) (by decide) c_4; omega
          refine lv_iconst (v := (-1)) hx hb dX6_get_24 (by decide) ?_
          exact W.iret (v := (-1)) hx hb hr (fun t ht hW => ⟨⟨(-1), [(a_t, (oc6 8 5 a_n e_n)), (a_n, (arI G 40 f_n))], rfl, ⟨(-1), qt_getN (by omega), rfl, rfl⟩, by rw [ht]; exact hP.sub [0, 1] rfl, hD.sub [0, 1] (by decide) rfl⟩, hS.F ht⟩) hS.2.2 dX6_get_25
set_option maxHeartbeats 4000000 in
set_option maxRecDepth 100000 in
theorem t_set_P (l : Launch) (G : g5_G) (a_t a_n : Nat) (sz : Nat) (e_n : Int32) (p_r : Int32) (p_c : Int32) (p_v : Int32) (f_n : Nat → Int32) (h_e_n : 0 ≤ e_n.toInt ∧ e_n.toInt ≤ 8) : Met l yX6_set (wsG yX6_set cX6_set 4 none) ({ frames := 1, cells := 0, slots := 0, locals := 21 }) (va_Pc [.ref a_t, .int p_r, .int p_c, .int p_v] (g5_P G [(a_t, (oc6 8 5 a_n e_n)), (a_n, (arI G 40 f_n))] sz)) (va_Qv (fun (u : va_W) => (∃ (o_f : Nat → Int32), (o_f = tset f_n e_n.toInt 5 p_r.toInt p_c.toInt p_v) ∧ (u = [(a_t, (oc6 8 5 a_n e_n)), (a_n, (arI G 40 o_f))]))) (g5_B G (va_A [(a_t, (oc6 8 5 a_n e_n)), (a_n, (arI G 40 f_n))] sz)) (va_A [(a_t, (oc6 8 5 a_n e_n)), (a_n, (arI G 40 f_n))] sz)) 0 0 (va_A [(a_t, (oc6 8 5 a_n e_n)), (a_n, (arI G 40 f_n))] sz) := by
  refine Met.ofW (cc := cX6_set) (maxL := 4) (ret := none) (by decide +kernel) rfl ?_
  intro p e s m args below meth c s₁ B hml hv
  obtain ⟨rfl, hsz, hP, hK, hD0, hN, hT⟩ := hv
  have hx := B.exec
  have hb := B.bytes
  have hr := B.returns
  have hts : ∀ w ∈ tblG, w.before _ s = true := fun w h => atoms_spec (ws := (wsG yX6_set cX6_set 4 none)) B.pre w (List.mem_cons_of_mem _ h)
  have hown : s.vm.findClass RX6 = some m.cls := findClass_of_methodNamed B.named
  have hlocks := B.notSynchronized
  subst hsz
  have hD := hD0.self (sz := s.heap.size)
  generalize hAe : va_A [(a_t, (oc6 8 5 a_n e_n)), (a_n, (arI G 40 f_n))] s.heap.size = A at hD hT ⊢
  have hA : ∀ q : Nat, s.heap.size ≤ q → A q := fun q h => by rw [← hAe]; exact Or.inr h
  have hS : va_S A s.heap s.heap [] := va_S.rf
  replace hP : va_P G.1 vwCl [(a_t, (oc6 8 5 a_n e_n)), (a_n, (arI G 40 f_n))] s.heap := hP
  have hl := lv_entry ([.ref a_t, .int p_r, .int p_c, .int p_v]) (n := 4) (Nat.le_of_ble_eq_true rfl)
  rw [lg_entry_eq]
  generalize (lg_sl ([.ref a_t, .int p_r, .int p_c, .int p_v]) ++ List.replicate (4 - (lg_sl ([.ref a_t, .int p_r, .int p_c, .int p_v])).length) Slot.unset).toArray = ls at hl ⊢
  replace hl : lv_has ls 4 [(0, .ref a_t), (1, .int p_r), (2, .int p_c), (3, .int p_v)] := hl
  refine lv_aload_n hx hb dX6_set_0 rfl (lv_at hl 0 rfl) ?_
  refine lv_iload_n hx hb dX6_set_1 rfl (lv_at hl 1 rfl) ?_
  obtain ⟨hPc, hDc, hFc⟩ := g5_sub3 (wc := [(a_t, (oc6 8 5 a_n e_n))]) hP hD hS hA [0] (by decide +kernel) rfl
  refine va_calli (va_runV (As := [.int p_r]) (rest := []) ⟨hx, hb, hml, hown, hts⟩ (t_has_P l G a_t a_n s.heap.size e_n p_r h_e_n) (cwV 1 hts gV_X6_25 rfl rfl rfl hv_X6_has ⟨Nat.le_of_ble_eq_true rfl, Nat.le_of_ble_eq_true rfl⟩) (g5_preV hPc hK hDc hN hT hS hFc (ci := 6) (q0 := 0) rfl rfl) rfl rfl hl.1 rfl (lv_room (Nat.le_of_ble_eq_true rfl)) dX6_set_2 ⟨Nat.le_of_ble_eq_true rfl, Nat.le_of_ble_eq_true rfl⟩) hS (fun q _ h => hFc q h) hFc (fun r u t H locs ht hvm hw hB hz1 hk1 hS => ?_)
  obtain ⟨hP1, hD1⟩ := hB
  have hP1 := g5_ht ht hP1
  rcases hw with ⟨(i_1 : 0 ≤ p_r.toInt ∧ p_r.toInt < e_n.toInt), rfl, rfl⟩ | ⟨(i_2 : p_r.toInt < 0 ∨ e_n.toInt ≤ p_r.toInt), rfl, rfl⟩
  ·
    have hJ9 := va_join (wr := [(a_n, (arI G 40 f_n))]) hP hD [0] [1] rfl rfl (by decide +kernel) (by decide +kernel) hk1 hFc hP1 hD1
    clear hP hD hPc hDc hFc ht hvm hz1 hk1 hP1 hD1
    obtain ⟨hP, hD⟩ := hJ9
    refine g5_rs [(a_n, (arI G 40 f_n)), (a_t, (oc6 8 5 a_n e_n))] hP hD ?_
    clear hP hD
    intro hP hD
    refine lv_if_eq (tgt := 34) hx hb dX6_set_5 (by decide +kernel) (fun c_3 => ?_) (fun c_3 => ?_)
    ·
      exact absurd c_3 (by decide +kernel)
    ·
      refine lv_iload_n hx hb dX6_set_8 rfl (lv_at hl 2 rfl) ?_
      refine lv_if_lt (tgt := 34) hx hb dX6_set_9 (by decide +kernel) (fun c_4 => ?_) (fun c_4 => ?_)
      ·
        have i_4 : p_c.toInt < 0 := g5_lt (a := p_c.toInt) (b := 0) rfl (by decide +kernel) c_4
        exact W.vret hx hb hr (fun t ht hW => ⟨⟨[(a_t, (oc6 8 5 a_n e_n)), (a_n, (arI G 40 f_n))], rfl, ⟨f_n, qt_setN (by omega), rfl⟩, by rw [ht]; exact hP.sub [1, 0] rfl, hD.sub [1, 0] (by decide +kernel) rfl⟩, hS.F ht⟩) hS.2.2 dX6_set_34
      ·
        have i_4 : p_c.toInt ≥ 0 := g5_ltN (a := p_c.toInt) (b := 0) rfl (by decide +kernel) c_4
        refine lv_iload_n hx hb dX6_set_12 rfl (lv_at hl 2 rfl) ?_
        refine lv_aload_n hx hb dX6_set_13 rfl (lv_at hl 0 rfl) ?_
        refine va_get (D := G.1) (ci := 6) (v := .int 5) (C := RX6) (T := TX6) (N := 4) hx hb hts inG_X6 hown hK hP 1 rfl rfl 1 (by decide +kernel) (hts _ fl_X6_18) (fun _ h9 => h9) rfl dX6_set_14 ?_
        refine lv_icmp_ge (tgt := 34) hx hb dX6_set_17 (by decide +kernel) (fun c_5 => ?_) (fun c_5 => ?_)
        ·
          have i_5 : p_c.toInt ≥ 5 := g5_ge (a := p_c.toInt) (b := 5) rfl (by decide +kernel) c_5
          exact W.vret hx hb hr (fun t ht hW => ⟨⟨[(a_t, (oc6 8 5 a_n e_n)), (a_n, (arI G 40 f_n))], rfl, ⟨f_n, qt_setN (by omega), rfl⟩, by rw [ht]; exact hP.sub [1, 0] rfl, hD.sub [1, 0] (by decide +kernel) rfl⟩, hS.F ht⟩) hS.2.2 dX6_set_34
        ·
          have i_5 : p_c.toInt < 5 := g5_geN (a := p_c.toInt) (b := 5) rfl (by decide +kernel) c_5
          refine lv_aload_n hx hb dX6_set_20 rfl (lv_at hl 0 rfl) ?_
          refine va_get (D := G.1) (ci := 6) (v := .ref a_n) (C := RX6) (T := TX6) (N := 4) hx hb hts inG_X6 hown hK hP 1 rfl rfl 2 (by decide +kernel) (hts _ fl_X6_21) (fun _ h9 => h9) rfl dX6_set_21 ?_
          refine lv_iload_n hx hb dX6_set_24 rfl (lv_at hl 1 rfl) ?_
          refine lv_aload_n hx hb dX6_set_25 rfl (lv_at hl 0 rfl) ?_
          refine W.eq (g2 := F0 m 26 ls [.ref a_t, .int p_r, .ref a_n]) rfl ?_
          refine va_get (D := G.1) (ci := 6) (v := .int 5) (C := RX6) (T := TX6) (N := 4) hx hb hts inG_X6 hown hK hP 1 rfl rfl 1 (by decide +kernel) (hts _ fl_X6_18) (fun _ h9 => h9) rfl dX6_set_26 ?_
          refine lv_imul hx hb dX6_set_29 ?_
          have t_6 : (p_r * 5).toInt = p_r.toInt * 5 := g5_imul (a := p_r.toInt) (b := 5) (by rfl) (by decide +kernel) (by omega) (by omega)
          refine lv_iload_n hx hb dX6_set_30 rfl (lv_at hl 2 rfl) ?_
          refine lv_iadd hx hb dX6_set_31 ?_
          have t_7 : ((p_r * 5) + p_c).toInt = (p_r * 5).toInt + p_c.toInt := g5_iadd (a := (p_r * 5).toInt) (b := p_c.toInt) (by rfl) (by rfl) (by omega) (by omega)
          refine lv_iload_n hx hb dX6_set_32 rfl (lv_at hl 3 rfl) ?_
          refine W.eq (g2 := F0 m 33 ls [.int p_v, .int ((p_r * 5) + p_c), .ref a_n]) rfl ?_
          refine va_iast hx hb hK hP hD hS 0 0 rfl rfl (i := ((p_r * 5) + p_c)) (x := p_v) (vp_in_iff.mpr ⟨by omega, by omega⟩) dX6_set_33 ?_
          clear hP hD hS
          intro H locs hP hD hS
          refine g5_rs [(a_n, (arI G 40 (upd f_n ((p_r * 5) + p_c).toNatClampNeg p_v))), (a_t, (oc6 8 5 a_n e_n))] hP hD ?_
          clear hP hD
          intro hP hD
          exact W.vret hx hb hr (fun t ht hW => ⟨⟨[(a_t, (oc6 8 5 a_n e_n)), (a_n, (arI G 40 (upd f_n ((p_r * 5) + p_c).toNatClampNeg p_v)))], rfl, ⟨(upd f_n ((p_r * 5) + p_c).toNatClampNeg p_v), qt_set (x := ((p_r * 5) + p_c)) (by omega) (by omega), rfl⟩, by rw [ht]; exact hP.sub [1, 0] rfl, hD.sub [1, 0] (by decide +kernel) rfl⟩, hS.F ht⟩) hS.2.2 dX6_set_34
  ·
    have hJ9 := va_join (wr := [(a_n, (arI G 40 f_n))]) hP hD [0] [1] rfl rfl (by decide +kernel) (by decide +kernel) hk1 hFc hP1 hD1
    clear hP hD hPc hDc hFc ht hvm hz1 hk1 hP1 hD1
    obtain ⟨hP, hD⟩ := hJ9
    refine g5_rs [(a_n, (arI G 40 f_n)), (a_t, (oc6 8 5 a_n e_n))] hP hD ?_
    clear hP hD
    intro hP hD
    refine lv_if_eq (tgt := 34) hx hb dX6_set_5 (by decide +kernel) (fun c_8 => ?_) (fun c_8 => ?_)
    ·
      exact W.vret hx hb hr (fun t ht hW => ⟨⟨[(a_t, (oc6 8 5 a_n e_n)), (a_n, (arI G 40 f_n))], rfl, ⟨f_n, qt_setN (by omega), rfl⟩, by rw [ht]; exact hP.sub [1, 0] rfl, hD.sub [1, 0] (by decide +kernel) rfl⟩, hS.F ht⟩) hS.2.2 dX6_set_34
    ·
      exact absurd c_8 (by decide +kernel)
set_option maxHeartbeats 4000000 in
set_option maxRecDepth 100000 in
theorem t_open_P (l : Launch) (G : g5_G) (a_t a_n : Nat) (sz : Nat) (e_n : Int32) (p_v : Int32) (f_n : Nat → Int32) (h_e_n : 0 ≤ e_n.toInt ∧ e_n.toInt ≤ 8) : Met l yX6_open (wsG yX6_open cX6_open 4 (some .int)) ({ frames := 2, cells := 0, slots := 0, locals := 44 }) (va_Pc [.ref a_t, .int p_v] (g5_P G [(a_t, (oc6 8 5 a_n e_n)), (a_n, (arI G 40 f_n))] sz)) (va_Qi (fun (r : Int32) (u : va_W) => ((e_n.toInt = 8) ∧ (r = (-1)) ∧ (u = [(a_t, (oc6 8 5 a_n e_n)), (a_n, (arI G 40 f_n))])) ∨ (∃ (o_f : Nat → Int32), (e_n.toInt < 8) ∧ ((e_n + 1).toInt = e_n.toInt + 1) ∧ (o_f = tfil f_n e_n.toInt 5 p_v 5) ∧ (r = e_n) ∧ (u = [(a_t, (oc6 8 5 a_n (e_n + 1))), (a_n, (arI G 40 o_f))]))) (g5_B G (va_A [(a_t, (oc6 8 5 a_n e_n)), (a_n, (arI G 40 f_n))] sz)) (va_A [(a_t, (oc6 8 5 a_n e_n)), (a_n, (arI G 40 f_n))] sz)) 0 0 (va_A [(a_t, (oc6 8 5 a_n e_n)), (a_n, (arI G 40 f_n))] sz) := by
  refine Met.ofW (cc := cX6_open) (maxL := 4) (ret := (some .int)) (by decide +kernel) rfl ?_
  intro p e s m args below meth c s₁ B hml hv
  obtain ⟨rfl, hsz, hP, hK, hD0, hN, hT⟩ := hv
  have hx := B.exec
  have hb := B.bytes
  have hr := B.returns
  have hts : ∀ w ∈ tblG, w.before _ s = true := fun w h => atoms_spec (ws := (wsG yX6_open cX6_open 4 (some .int))) B.pre w (List.mem_cons_of_mem _ h)
  have hown : s.vm.findClass RX6 = some m.cls := findClass_of_methodNamed B.named
  have hlocks := B.notSynchronized
  subst hsz
  have hD := hD0.self (sz := s.heap.size)
  generalize hAe : va_A [(a_t, (oc6 8 5 a_n e_n)), (a_n, (arI G 40 f_n))] s.heap.size = A at hD hT ⊢
  have hA : ∀ q : Nat, s.heap.size ≤ q → A q := fun q h => by rw [← hAe]; exact Or.inr h
  have hS : va_S A s.heap s.heap [] := va_S.rf
  replace hP : va_P G.1 vwCl [(a_t, (oc6 8 5 a_n e_n)), (a_n, (arI G 40 f_n))] s.heap := hP
  have hl := lv_entry ([.ref a_t, .int p_v]) (n := 4) (Nat.le_of_ble_eq_true rfl)
  rw [lg_entry_eq]
  generalize (lg_sl ([.ref a_t, .int p_v]) ++ List.replicate (4 - (lg_sl ([.ref a_t, .int p_v])).length) Slot.unset).toArray = ls at hl ⊢
  replace hl : lv_has ls 4 [(0, .ref a_t), (1, .int p_v)] := hl
  refine lv_aload_n hx hb dX6_open_0 rfl (lv_at hl 0 rfl) ?_
  obtain ⟨hPc, hDc, hFc⟩ := g5_sub3 (wc := [(a_t, (oc6 8 5 a_n e_n))]) hP hD hS hA [0] (by decide +kernel) rfl
  refine va_calli (va_runV (As := []) (rest := []) ⟨hx, hb, hml, hown, hts⟩ (t_isFull_P l G a_t a_n s.heap.size e_n h_e_n) (cwV 0 hts gV_X6_33 rfl rfl rfl hv_X6_isFull ⟨Nat.le_of_ble_eq_true rfl, Nat.le_of_ble_eq_true rfl⟩) (g5_preV hPc hK hDc hN hT hS hFc (ci := 6) (q0 := 0) rfl rfl) rfl rfl hl.1 rfl (lv_room (Nat.le_of_ble_eq_true rfl)) dX6_open_1 ⟨Nat.le_of_ble_eq_true rfl, Nat.le_of_ble_eq_true rfl⟩) hS (fun q _ h => hFc q h) hFc (fun r u t H locs ht hvm hw hB hz1 hk1 hS => ?_)
  obtain ⟨hP1, hD1⟩ := hB
  have hP1 := g5_ht ht hP1
  rcases hw with ⟨(i_1 : e_n.toInt = 8), rfl, rfl⟩ | ⟨(i_2 : e_n.toInt < 8), rfl, rfl⟩
  ·
    have hJ9 := va_join (wr := [(a_n, (arI G 40 f_n))]) hP hD [0] [1] rfl rfl (by decide +kernel) (by decide +kernel) hk1 hFc hP1 hD1
    clear hP hD hPc hDc hFc ht hvm hz1 hk1 hP1 hD1
    obtain ⟨hP, hD⟩ := hJ9
    refine g5_rs [(a_n, (arI G 40 f_n)), (a_t, (oc6 8 5 a_n e_n))] hP hD ?_
    clear hP hD
    intro hP hD
    refine lv_if_eq (tgt := 9) hx hb dX6_open_4 (by decide +kernel) (fun c_3 => ?_) (fun c_3 => ?_)
    ·
      exact absurd c_3 (by decide +kernel)
    ·
      refine lv_iconst (v := (-1)) hx hb dX6_open_7 (by decide +kernel) ?_
      exact W.iret (v := (-1)) hx hb hr (fun t ht hW => ⟨⟨(-1), [(a_t, (oc6 8 5 a_n e_n)), (a_n, (arI G 40 f_n))], rfl, Or.inl (⟨by omega, rfl, rfl⟩), by rw [ht]; exact hP.sub [1, 0] rfl, hD.sub [1, 0] (by decide +kernel) rfl⟩, hS.F ht⟩) hS.2.2 dX6_open_8
  ·
    have hJ9 := va_join (wr := [(a_n, (arI G 40 f_n))]) hP hD [0] [1] rfl rfl (by decide +kernel) (by decide +kernel) hk1 hFc hP1 hD1
    clear hP hD hPc hDc hFc ht hvm hz1 hk1 hP1 hD1
    obtain ⟨hP, hD⟩ := hJ9
    refine g5_rs [(a_n, (arI G 40 f_n)), (a_t, (oc6 8 5 a_n e_n))] hP hD ?_
    clear hP hD
    intro hP hD
    refine lv_if_eq (tgt := 9) hx hb dX6_open_4 (by decide +kernel) (fun c_4 => ?_) (fun c_4 => ?_)
    ·
      refine lv_aload_n hx hb dX6_open_9 rfl (lv_at hl 0 rfl) ?_
      refine va_get (D := G.1) (ci := 6) (v := .int e_n) (C := RX6) (T := TX6) (N := 4) hx hb hts inG_X6 hown hK hP 1 rfl rfl 3 (by decide +kernel) (hts _ fl_X6_9) (fun _ h9 => h9) rfl dX6_open_10 ?_
      refine lv_istore_n (lv' := [(2, .int e_n), (0, .ref a_t), (1, .int p_v)]) hx hb dX6_open_13 rfl hl (by decide +kernel) rfl ?_
      clear hl
      intro ls hl
      refine lv_aload_n hx hb dX6_open_14 rfl (lv_at hl 1 rfl) ?_
      refine W.eq (g2 := F0 m 15 ls [.ref a_t]) rfl ?_
      refine lv_dup hx hb dX6_open_15 rfl ?_
      refine va_get (D := G.1) (ci := 6) (v := .int e_n) (C := RX6) (T := TX6) (N := 4) hx hb hts inG_X6 hown hK hP 1 rfl rfl 3 (by decide +kernel) (hts _ fl_X6_9) (fun _ h9 => h9) rfl dX6_open_16 ?_
      refine lv_iconst (v := 1) hx hb dX6_open_19 (by decide +kernel) ?_
      refine lv_iadd hx hb dX6_open_20 ?_
      have t_5 : (e_n + 1).toInt = e_n.toInt + 1 := g5_iadd (a := e_n.toInt) (b := 1) (by rfl) (by decide +kernel) (by omega) (by omega)
      refine va_put (D := G.1) (ci := 6) (v := .int (e_n + 1)) (ty := .int) (C := RX6) (T := TX6) (N := 4) hx hb hts inG_X6 tyX6 tyX6_ok nmX6 hown hK hP hD hS 1 rfl rfl 3 (by decide +kernel) (hts _ fl_X6_9) (fun _ h9 => h9) rfl (by decide +kernel) rfl rfl (Nat.le_of_ble_eq_true rfl) dX6_open_21 ?_
      clear hP hD hS
      intro H locs hP hD hS
      refine g5_rs [(a_n, (arI G 40 f_n)), (a_t, (oc6 8 5 a_n (e_n + 1)))] hP hD ?_
      clear hP hD
      intro hP hD
      refine W.eq (g2 := F0 m 24 ls []) rfl ?_
      refine lv_iconst (v := 0) hx hb dX6_open_24 (by decide +kernel) ?_
      refine lv_istore_n (lv' := [(3, .int 0), (2, .int e_n), (0, .ref a_t), (1, .int p_v)]) hx hb dX6_open_25 rfl hl (by decide +kernel) rfl ?_
      clear hl
      intro ls hl
      refine g5_loop (α := (Int32) × (Nat → Int32)) (fun (q : (Int32) × (Nat → Int32)) (ls : Array Slot) (H : Heap) (locs : List Loc) => match q with | (k_c, k_f) => lv_has ls 4 [(3, .int k_c), (2, .int e_n), (0, .ref a_t), (1, .int p_v)] ∧ va_P G.1 vwCl [(a_n, (arI G 40 k_f)), (a_t, (oc6 8 5 a_n (e_n + 1)))] H ∧ va_D A [(a_n, (arI G 40 k_f)), (a_t, (oc6 8 5 a_n (e_n + 1)))] ∧ va_S A s.heap H locs ∧ (0 ≤ k_c.toInt ∧ k_c.toInt ≤ 5) ∧ (k_f = tfil f_n e_n.toInt 5 p_v k_c.toInt)) (fun (q : (Int32) × (Nat → Int32)) => match q with | (k_c, k_f) => Int.toNat (5 - k_c.toInt)) (0, f_n) ⟨lv_sub hl [0, 1, 2, 3] rfl, hP, hD, hS, ⟨by decide, by decide⟩, qt_fil0⟩ ?_
      rintro ⟨k_c, k_f⟩ ls H locs ⟨hl, hP, hD, hS, (i_6 : 0 ≤ k_c.toInt ∧ k_c.toInt ≤ 5), (i_7 : k_f = tfil f_n e_n.toInt 5 p_v k_c.toInt)⟩ ih_26_8
      replace hl : lv_has ls 4 [(3, .int k_c), (2, .int e_n), (0, .ref a_t), (1, .int p_v)] := hl
      refine g5_rs [(a_n, (arI G 40 k_f)), (a_t, (oc6 8 5 a_n (e_n + 1)))] hP hD ?_
      clear hP hD
      intro hP hD
      refine lv_iload_n hx hb dX6_open_26 rfl (lv_at hl 0 rfl) ?_
      refine lv_aload_n hx hb dX6_open_27 rfl (lv_at hl 2 rfl) ?_
      refine va_get (D := G.1) (ci := 6) (v := .int 5) (C := RX6) (T := TX6) (N := 4) hx hb hts inG_X6 hown hK hP 1 rfl rfl 1 (by decide +kernel) (hts _ fl_X6_18) (fun _ h9 => h9) rfl dX6_open_28 ?_
      refine lv_icmp_ge (tgt := 47) hx hb dX6_open_31 (by decide +kernel) (fun c_9 => ?_) (fun c_9 => ?_)
      ·
        have i_9 : k_c.toInt ≥ 5 := g5_ge (a := k_c.toInt) (b := 5) rfl (by decide +kernel) c_9
        refine lv_iload_n hx hb dX6_open_47 rfl (lv_at hl 1 rfl) ?_
        exact W.iret (v := e_n) hx hb hr (fun t ht hW => ⟨⟨e_n, [(a_t, (oc6 8 5 a_n (e_n + 1))), (a_n, (arI G 40 k_f))], rfl, Or.inr (⟨k_f, by omega, by omega, by rw [i_7, show k_c.toInt = 5 by omega], rfl, rfl⟩), by rw [ht]; exact hP.sub [1, 0] rfl, hD.sub [1, 0] (by decide +kernel) rfl⟩, hS.F ht⟩) hS.2.2 dX6_open_48
      ·
        have i_9 : k_c.toInt < 5 := g5_geN (a := k_c.toInt) (b := 5) rfl (by decide +kernel) c_9
        refine lv_aload_n hx hb dX6_open_34 rfl (lv_at hl 2 rfl) ?_
        refine lv_iload_n hx hb dX6_open_35 rfl (lv_at hl 1 rfl) ?_
        refine lv_iload_n hx hb dX6_open_36 rfl (lv_at hl 0 rfl) ?_
        refine lv_iload_n hx hb dX6_open_37 rfl (lv_at hl 3 rfl) ?_
        refine W.eq (g2 := F0 m 38 ls [.int p_v, .int k_c, .int e_n, .ref a_t]) rfl ?_
        obtain ⟨hPc, hDc, hFc⟩ := g5_sub3 (wc := [(a_t, (oc6 8 5 a_n (e_n + 1))), (a_n, (arI G 40 k_f))]) hP hD hS hA [1, 0] (by decide +kernel) rfl
        refine va_callv (va_runV (As := [.int e_n, .int k_c, .int p_v]) (rest := []) ⟨hx, hb, hml, hown, hts⟩ (t_set_P l G a_t a_n H.size (e_n + 1) e_n k_c p_v k_f ⟨by omega, by omega⟩) (cwV 3 hts gV_X6_29 rfl rfl rfl hv_X6_set ⟨Nat.le_of_ble_eq_true rfl, Nat.le_of_ble_eq_true rfl⟩) (g5_preV hPc hK hDc hN hT hS hFc (ci := 6) (q0 := 0) rfl rfl) rfl rfl hl.1 rfl (lv_room (Nat.le_of_ble_eq_true rfl)) dX6_open_38 ⟨Nat.le_of_ble_eq_true rfl, Nat.le_of_ble_eq_true rfl⟩) hS (fun q _ h => hFc q h) hFc (fun u t H locs ht hvm hw hB hz1 hk1 hS => ?_)
        obtain ⟨hP1, hD1⟩ := hB
        have hP1 := g5_ht ht hP1
        obtain ⟨z11, (i_10 : z11 = tset k_f (e_n + 1).toInt 5 e_n.toInt k_c.toInt p_v), rfl⟩ := hw
        have hJ9 := va_join (wr := []) hP hD [1, 0] [] rfl rfl (by decide +kernel) (by decide +kernel) hk1 hFc hP1 hD1
        clear hP hD hPc hDc hFc ht hvm hz1 hk1 hP1 hD1
        obtain ⟨hP, hD⟩ := hJ9
        refine g5_rs [(a_t, (oc6 8 5 a_n (e_n + 1))), (a_n, (arI G 40 z11))] hP hD ?_
        clear hP hD
        intro hP hD
        refine lv_iinc (v := (k_c + 1)) (lv' := [(3, .int (k_c + 1)), (2, .int e_n), (0, .ref a_t), (1, .int p_v)]) hx hb dX6_open_41 hl (k := 0) rfl rfl (by decide +kernel) rfl ?_
        clear hl
        intro ls hl
        have t_12 : (k_c + 1).toInt = k_c.toInt + 1 := g5_iadd (a := k_c.toInt) (b := 1) rfl (by decide +kernel) (by omega) (by omega)
        refine lv_goto (tgt := 26) hx hb dX6_open_44 (by decide +kernel) ?_
        exact ih_26_8 ((k_c + 1), z11) ls H locs (show Int.toNat (5 - (k_c + 1).toInt) < Int.toNat (5 - k_c.toInt) from g_up (show k_c.toInt < (k_c + 1).toInt by omega) (show k_c.toInt < 5 by omega)) ⟨lv_sub hl [0, 1, 2, 3] rfl, hP.sub [1, 0] rfl, hD.sub [1, 0] (by decide +kernel) rfl, hS, ⟨by omega, by omega⟩, i_10.trans (qt_filS i_7 (by omega) (by omega) (by omega) (by omega) (by omega))⟩
    ·
      exact absurd c_4 (by decide +kernel)
set_option maxHeartbeats 4000000 in
set_option maxRecDepth 100000 in
theorem t_find_P (l : Launch) (G : g5_G) (a_t a_n : Nat) (sz : Nat) (e_n : Int32) (p_c : Int32) (p_v : Int32) (f_n : Nat → Int32) (h_e_n : 0 ≤ e_n.toInt ∧ e_n.toInt ≤ 8) : Met l yX6_find (wsG yX6_find cX6_find 4 (some .int)) ({ frames := 1, cells := 0, slots := 0, locals := 22 }) (va_Pc [.ref a_t, .int p_c, .int p_v] (g5_P G [(a_t, (oc6 8 5 a_n e_n)), (a_n, (arI G 40 f_n))] sz)) (va_Qi (fun (r : Int32) (u : va_W) => ((∀ r : Int, 0 ≤ r → r < e_n.toInt → tget f_n e_n.toInt 5 r p_c.toInt ≠ p_v) ∧ (r = (-1)) ∧ (u = [(a_t, (oc6 8 5 a_n e_n)), (a_n, (arI G 40 f_n))])) ∨ (∃ (o_r : Int32), (0 ≤ o_r.toInt ∧ o_r.toInt < e_n.toInt) ∧ (tget f_n e_n.toInt 5 o_r.toInt p_c.toInt = p_v) ∧ (r = o_r) ∧ (u = [(a_t, (oc6 8 5 a_n e_n)), (a_n, (arI G 40 f_n))]))) (g5_B G (va_A [(a_t, (oc6 8 5 a_n e_n)), (a_n, (arI G 40 f_n))] sz)) (va_A [(a_t, (oc6 8 5 a_n e_n)), (a_n, (arI G 40 f_n))] sz)) 0 0 (va_A [(a_t, (oc6 8 5 a_n e_n)), (a_n, (arI G 40 f_n))] sz) := by
  refine Met.ofW (cc := cX6_find) (maxL := 4) (ret := (some .int)) (by decide +kernel) rfl ?_
  intro p e s m args below meth c s₁ B hml hv
  obtain ⟨rfl, hsz, hP, hK, hD0, hN, hT⟩ := hv
  have hx := B.exec
  have hb := B.bytes
  have hr := B.returns
  have hts : ∀ w ∈ tblG, w.before _ s = true := fun w h => atoms_spec (ws := (wsG yX6_find cX6_find 4 (some .int))) B.pre w (List.mem_cons_of_mem _ h)
  have hown : s.vm.findClass RX6 = some m.cls := findClass_of_methodNamed B.named
  have hlocks := B.notSynchronized
  subst hsz
  have hD := hD0.self (sz := s.heap.size)
  generalize hAe : va_A [(a_t, (oc6 8 5 a_n e_n)), (a_n, (arI G 40 f_n))] s.heap.size = A at hD hT ⊢
  have hA : ∀ q : Nat, s.heap.size ≤ q → A q := fun q h => by rw [← hAe]; exact Or.inr h
  have hS : va_S A s.heap s.heap [] := va_S.rf
  replace hP : va_P G.1 vwCl [(a_t, (oc6 8 5 a_n e_n)), (a_n, (arI G 40 f_n))] s.heap := hP
  have hl := lv_entry ([.ref a_t, .int p_c, .int p_v]) (n := 4) (Nat.le_of_ble_eq_true rfl)
  rw [lg_entry_eq]
  generalize (lg_sl ([.ref a_t, .int p_c, .int p_v]) ++ List.replicate (4 - (lg_sl ([.ref a_t, .int p_c, .int p_v])).length) Slot.unset).toArray = ls at hl ⊢
  replace hl : lv_has ls 4 [(0, .ref a_t), (1, .int p_c), (2, .int p_v)] := hl
  refine lv_iconst (v := 0) hx hb dX6_find_0 (by decide +kernel) ?_
  refine lv_istore_n (lv' := [(3, .int 0), (0, .ref a_t), (1, .int p_c), (2, .int p_v)]) hx hb dX6_find_1 rfl hl (by decide +kernel) rfl ?_
  clear hl
  intro ls hl
  refine g5_loop (α := (Int32)) (fun (k_r : (Int32)) (ls : Array Slot) (H : Heap) (locs : List Loc) => lv_has ls 4 [(3, .int k_r), (0, .ref a_t), (1, .int p_c), (2, .int p_v)] ∧ va_P G.1 vwCl [(a_t, (oc6 8 5 a_n e_n)), (a_n, (arI G 40 f_n))] H ∧ va_D A [(a_t, (oc6 8 5 a_n e_n)), (a_n, (arI G 40 f_n))] ∧ va_S A s.heap H locs ∧ (0 ≤ k_r.toInt ∧ k_r.toInt ≤ 8) ∧ (k_r.toInt ≤ e_n.toInt) ∧ (∀ r : Int, 0 ≤ r → r < k_r.toInt → tget f_n e_n.toInt 5 r p_c.toInt ≠ p_v)) (fun (k_r : (Int32)) => Int.toNat (8 - k_r.toInt)) 0 ⟨lv_sub hl [0, 1, 2, 3] rfl, hP, hD, hS, ⟨by decide, by decide⟩, by have z0 : (0 : Int32).toInt = 0 := (by decide +kernel); omega, fun r h1 h2 => absurd h2 (by have z : (0 : Int32).toInt = 0 := (by decide +kernel); omega)⟩ ?_
  rintro k_r ls H locs ⟨hl, hP, hD, hS, (i_1 : 0 ≤ k_r.toInt ∧ k_r.toInt ≤ 8), (i_2 : k_r.toInt ≤ e_n.toInt), (i_3 : ∀ r : Int, 0 ≤ r → r < k_r.toInt → tget f_n e_n.toInt 5 r p_c.toInt ≠ p_v)⟩ ih_2_4
  replace hl : lv_has ls 4 [(3, .int k_r), (0, .ref a_t), (1, .int p_c), (2, .int p_v)] := hl
  refine g5_rs [(a_t, (oc6 8 5 a_n e_n)), (a_n, (arI G 40 f_n))] hP hD ?_
  clear hP hD
  intro hP hD
  refine lv_iload_n hx hb dX6_find_2 rfl (lv_at hl 0 rfl) ?_
  refine lv_aload_n hx hb dX6_find_3 rfl (lv_at hl 1 rfl) ?_
  refine va_get (D := G.1) (ci := 6) (v := .int e_n) (C := RX6) (T := TX6) (N := 4) hx hb hts inG_X6 hown hK hP 0 rfl rfl 3 (by decide +kernel) (hts _ fl_X6_9) (fun _ h9 => h9) rfl dX6_find_4 ?_
  refine lv_icmp_ge (tgt := 28) hx hb dX6_find_7 (by decide +kernel) (fun c_5 => ?_) (fun c_5 => ?_)
  ·
    have i_5 : k_r.toInt ≥ e_n.toInt := g5_ge (a := k_r.toInt) (b := e_n.toInt) rfl rfl c_5
    refine lv_iconst (v := (-1)) hx hb dX6_find_28 (by decide +kernel) ?_
    exact W.iret (v := (-1)) hx hb hr (fun t ht hW => ⟨⟨(-1), [(a_t, (oc6 8 5 a_n e_n)), (a_n, (arI G 40 f_n))], rfl, Or.inl (⟨fun r h1 h2 => i_3 r h1 (by omega), rfl, rfl⟩), by rw [ht]; exact hP.sub [0, 1] rfl, hD.sub [0, 1] (by decide +kernel) rfl⟩, hS.F ht⟩) hS.2.2 dX6_find_29
  ·
    have i_5 : k_r.toInt < e_n.toInt := g5_geN (a := k_r.toInt) (b := e_n.toInt) rfl rfl c_5
    refine lv_aload_n hx hb dX6_find_10 rfl (lv_at hl 1 rfl) ?_
    refine lv_iload_n hx hb dX6_find_11 rfl (lv_at hl 0 rfl) ?_
    refine lv_iload_n hx hb dX6_find_12 rfl (lv_at hl 2 rfl) ?_
    obtain ⟨hPc, hDc, hFc⟩ := g5_sub3 (wc := [(a_t, (oc6 8 5 a_n e_n)), (a_n, (arI G 40 f_n))]) hP hD hS hA [0, 1] (by decide +kernel) rfl
    refine va_calli (va_runV (As := [.int k_r, .int p_c]) (rest := []) ⟨hx, hb, hml, hown, hts⟩ (t_get_P l G a_t a_n H.size e_n k_r p_c f_n h_e_n) (cwV 2 hts gV_X6_43 rfl rfl rfl hv_X6_get ⟨Nat.le_of_ble_eq_true rfl, Nat.le_of_ble_eq_true rfl⟩) (g5_preV hPc hK hDc hN hT hS hFc (ci := 6) (q0 := 0) rfl rfl) rfl rfl hl.1 rfl (lv_room (Nat.le_of_ble_eq_true rfl)) dX6_find_13 ⟨Nat.le_of_ble_eq_true rfl, Nat.le_of_ble_eq_true rfl⟩) hS (fun q _ h => hFc q h) hFc (fun r u t H locs ht hvm hw hB hz1 hk1 hS => ?_)
    obtain ⟨hP1, hD1⟩ := hB
    have hP1 := g5_ht ht hP1
    obtain ⟨z7, (i_6 : z7 = tget f_n e_n.toInt 5 k_r.toInt p_c.toInt), y8, rfl⟩ := hw
    have hJ9 := va_join (wr := []) hP hD [0, 1] [] rfl rfl (by decide +kernel) (by decide +kernel) hk1 hFc hP1 hD1
    clear hP hD hPc hDc hFc ht hvm hz1 hk1 hP1 hD1
    obtain ⟨hP, hD⟩ := hJ9
    refine g5_rs [(a_t, (oc6 8 5 a_n e_n)), (a_n, (arI G 40 f_n))] hP hD ?_
    clear hP hD
    intro hP hD
    refine g5_ti (v := z7) y8 ?_
    refine W.eq (g2 := F0 m 16 ls [.int z7]) rfl ?_
    refine lv_iload_n hx hb dX6_find_16 rfl (lv_at hl 3 rfl) ?_
    refine lv_icmp_ne (tgt := 22) hx hb dX6_find_17 (by decide +kernel) (fun c_9 => ?_) (fun c_9 => ?_)
    ·
      have n_9 : gNe (z7.toInt) (p_v.toInt) := g5_ne (a := z7.toInt) (b := p_v.toInt) rfl rfl c_9
      refine lv_iinc (v := (k_r + 1)) (lv' := [(3, .int (k_r + 1)), (0, .ref a_t), (1, .int p_c), (2, .int p_v)]) hx hb dX6_find_22 hl (k := 0) rfl rfl (by decide +kernel) rfl ?_
      clear hl
      intro ls hl
      have t_10 : (k_r + 1).toInt = k_r.toInt + 1 := g5_iadd (a := k_r.toInt) (b := 1) rfl (by decide +kernel) (by omega) (by omega)
      refine lv_goto (tgt := 2) hx hb dX6_find_25 (by decide +kernel) ?_
      exact ih_2_4 (k_r + 1) ls H locs (show Int.toNat (8 - (k_r + 1).toInt) < Int.toNat (8 - k_r.toInt) from g_up (show k_r.toInt < (k_r + 1).toInt by omega) (show k_r.toInt < 8 by omega)) ⟨lv_sub hl [0, 1, 2, 3] rfl, hP, hD, hS, ⟨by omega, by omega⟩, by omega, fun r h1 h2 => by rcases (show r < k_r.toInt ∨ r = k_r.toInt by omega) with q | q; exact i_3 r h1 q; rw [q, ← i_6]; intro q2; rw [q2] at n_9; exact absurd rfl n_9⟩
    ·
      have i_9 : z7.toInt = p_v.toInt := g5_neN (a := z7.toInt) (b := p_v.toInt) rfl rfl c_9
      refine lv_iload_n hx hb dX6_find_20 rfl (lv_at hl 0 rfl) ?_
      exact W.iret (v := k_r) hx hb hr (fun t ht hW => ⟨⟨k_r, [(a_t, (oc6 8 5 a_n e_n)), (a_n, (arI G 40 f_n))], rfl, Or.inr (⟨k_r, ⟨by omega, by omega⟩, by rw [← i_6]; exact Int32.toInt_inj.mp (by omega), rfl, rfl⟩), by rw [ht]; exact hP.sub [0, 1] rfl, hD.sub [0, 1] (by decide +kernel) rfl⟩, hS.F ht⟩) hS.2.2 dX6_find_21
set_option maxHeartbeats 4000000 in
set_option maxRecDepth 100000 in
theorem t_has_W (l : Launch) (G : g5_G) (a_t a_n : Nat) (sz : Nat) (e_n : Int32) (p_r : Int32) (h_e_n : 0 ≤ e_n.toInt ∧ e_n.toInt ≤ 6) : Met l yX6_has (wsG yX6_has cX6_has 2 (some .boolean)) ({ frames := 0, cells := 0, slots := 0, locals := 0 }) (va_Pc [.ref a_t, .int p_r] (g5_P G [(a_t, (oc6 6 6 a_n e_n))] sz)) (va_Qi (fun (r : Int32) (u : va_W) => ((0 ≤ p_r.toInt ∧ p_r.toInt < e_n.toInt) ∧ (r = 1) ∧ (u = [(a_t, (oc6 6 6 a_n e_n))])) ∨ ((p_r.toInt < 0 ∨ e_n.toInt ≤ p_r.toInt) ∧ (r = 0) ∧ (u = [(a_t, (oc6 6 6 a_n e_n))]))) (g5_B G (va_A [(a_t, (oc6 6 6 a_n e_n))] sz)) (va_A [(a_t, (oc6 6 6 a_n e_n))] sz)) 0 0 (va_A [(a_t, (oc6 6 6 a_n e_n))] sz) := by
  refine Met.ofW (cc := cX6_has) (maxL := 2) (ret := (some .boolean)) (by decide) rfl ?_
  intro p e s m args below meth c s₁ B hml hv
  obtain ⟨rfl, hsz, hP, hK, hD0, hN, hT⟩ := hv
  have hx := B.exec
  have hb := B.bytes
  have hr := B.returns
  have hts : ∀ w ∈ tblG, w.before _ s = true := fun w h => atoms_spec (ws := (wsG yX6_has cX6_has 2 (some .boolean))) B.pre w (List.mem_cons_of_mem _ h)
  have hown : s.vm.findClass RX6 = some m.cls := findClass_of_methodNamed B.named
  have hlocks := B.notSynchronized
  subst hsz
  have hD := hD0.self (sz := s.heap.size)
  generalize hAe : va_A [(a_t, (oc6 6 6 a_n e_n))] s.heap.size = A at hD hT ⊢
  have hA : ∀ q : Nat, s.heap.size ≤ q → A q := fun q h => by rw [← hAe]; exact Or.inr h
  have hS : va_S A s.heap s.heap [] := va_S.rf
  have hP : va_P G.1 vwCl [(a_t, (oc6 6 6 a_n e_n))] s.heap := hP
  have hl := lv_entry ([.ref a_t, .int p_r]) (n := 2) (Nat.le_of_ble_eq_true rfl)
  rw [lg_entry_eq]
  generalize (lg_sl ([.ref a_t, .int p_r]) ++ List.replicate (2 - (lg_sl ([.ref a_t, .int p_r])).length) Slot.unset).toArray = ls at hl ⊢
  have hl : lv_has ls 2 [(0, .ref a_t), (1, .int p_r)] := hl
  refine lv_iload_n hx hb dX6_has_0 rfl (lv_at hl 1 rfl) ?_
  refine lv_if_lt (tgt := 16) hx hb dX6_has_1 (by decide) (fun c_1 => ?_) (fun c_1 => ?_)
  ·
    have i_1 : p_r.toInt < 0 := by have z := g5_lt (a := p_r.toInt) (b := 0) (by rfl) (by decide) c_1; omega
    refine lv_iconst (v := 0) hx hb dX6_has_16 (by decide) ?_
    exact W.zret (v := 0) hx hb hr rfl (fun t ht hW => ⟨⟨0, [(a_t, (oc6 6 6 a_n e_n))], rfl, Or.inr (⟨by omega, rfl, rfl⟩), by rw [ht]; exact hP.sub [0] rfl, hD.sub [0] (by decide) rfl⟩, hS.F ht⟩) hS.2.2 dX6_has_17
  ·
    have i_1 : p_r.toInt ≥ 0 := by have z := g5_ltN (a := p_r.toInt) (b := 0) (by rfl) (by decide) c_1; omega
    refine lv_iload_n hx hb dX6_has_4 rfl (lv_at hl 1 rfl) ?_
    refine lv_aload_n hx hb dX6_has_5 rfl (lv_at hl 0 rfl) ?_
    refine va_get (D := G.1) (ci := 6) (v := .int e_n) (C := RX6) (T := TX6) (N := 4) hx hb hts inG_X6 hown hK hP 0 rfl rfl 3 (by decide) (hts _ fl_X6_9) (fun _ h9 => h9) rfl dX6_has_6 ?_
    refine lv_icmp_ge (tgt := 16) hx hb dX6_has_9 (by decide) (fun c_2 => ?_) (fun c_2 => ?_)
    ·
      have i_2 : p_r.toInt ≥ e_n.toInt := by have z := g5_ge (a := p_r.toInt) (b := e_n.toInt) (by rfl) (by rfl) c_2; omega
      refine lv_iconst (v := 0) hx hb dX6_has_16 (by decide) ?_
      exact W.zret (v := 0) hx hb hr rfl (fun t ht hW => ⟨⟨0, [(a_t, (oc6 6 6 a_n e_n))], rfl, Or.inr (⟨by omega, rfl, rfl⟩), by rw [ht]; exact hP.sub [0] rfl, hD.sub [0] (by decide) rfl⟩, hS.F ht⟩) hS.2.2 dX6_has_17
    ·
      have i_2 : p_r.toInt < e_n.toInt := by have z := g5_geN (a := p_r.toInt) (b := e_n.toInt) (by rfl) (by rfl) c_2; omega
      refine lv_iconst (v := 1) hx hb dX6_has_12 (by decide) ?_
      refine lv_goto (tgt := 17) hx hb dX6_has_13 (by decide) ?_
      exact W.zret (v := 1) hx hb hr rfl (fun t ht hW => ⟨⟨1, [(a_t, (oc6 6 6 a_n e_n))], rfl, Or.inl (⟨by omega, rfl, rfl⟩), by rw [ht]; exact hP.sub [0] rfl, hD.sub [0] (by decide) rfl⟩, hS.F ht⟩) hS.2.2 dX6_has_17
set_option maxHeartbeats 4000000 in
set_option maxRecDepth 100000 in
theorem t_isFull_W (l : Launch) (G : g5_G) (a_t a_n : Nat) (sz : Nat) (e_n : Int32) (h_e_n : 0 ≤ e_n.toInt ∧ e_n.toInt ≤ 6) : Met l yX6_isFull (wsG yX6_isFull cX6_isFull 1 (some .boolean)) ({ frames := 0, cells := 0, slots := 0, locals := 0 }) (va_Pc [.ref a_t] (g5_P G [(a_t, (oc6 6 6 a_n e_n))] sz)) (va_Qi (fun (r : Int32) (u : va_W) => ((e_n.toInt = 6) ∧ (r = 1) ∧ (u = [(a_t, (oc6 6 6 a_n e_n))])) ∨ ((e_n.toInt < 6) ∧ (r = 0) ∧ (u = [(a_t, (oc6 6 6 a_n e_n))]))) (g5_B G (va_A [(a_t, (oc6 6 6 a_n e_n))] sz)) (va_A [(a_t, (oc6 6 6 a_n e_n))] sz)) 0 0 (va_A [(a_t, (oc6 6 6 a_n e_n))] sz) := by
  refine Met.ofW (cc := cX6_isFull) (maxL := 1) (ret := (some .boolean)) (by decide) rfl ?_
  intro p e s m args below meth c s₁ B hml hv
  obtain ⟨rfl, hsz, hP, hK, hD0, hN, hT⟩ := hv
  have hx := B.exec
  have hb := B.bytes
  have hr := B.returns
  have hts : ∀ w ∈ tblG, w.before _ s = true := fun w h => atoms_spec (ws := (wsG yX6_isFull cX6_isFull 1 (some .boolean))) B.pre w (List.mem_cons_of_mem _ h)
  have hown : s.vm.findClass RX6 = some m.cls := findClass_of_methodNamed B.named
  have hlocks := B.notSynchronized
  subst hsz
  have hD := hD0.self (sz := s.heap.size)
  generalize hAe : va_A [(a_t, (oc6 6 6 a_n e_n))] s.heap.size = A at hD hT ⊢
  have hA : ∀ q : Nat, s.heap.size ≤ q → A q := fun q h => by rw [← hAe]; exact Or.inr h
  have hS : va_S A s.heap s.heap [] := va_S.rf
  have hP : va_P G.1 vwCl [(a_t, (oc6 6 6 a_n e_n))] s.heap := hP
  have hl := lv_entry ([.ref a_t]) (n := 1) (Nat.le_of_ble_eq_true rfl)
  rw [lg_entry_eq]
  generalize (lg_sl ([.ref a_t]) ++ List.replicate (1 - (lg_sl ([.ref a_t])).length) Slot.unset).toArray = ls at hl ⊢
  have hl : lv_has ls 1 [(0, .ref a_t)] := hl
  refine lv_aload_n hx hb dX6_isFull_0 rfl (lv_at hl 0 rfl) ?_
  refine va_get (D := G.1) (ci := 6) (v := .int e_n) (C := RX6) (T := TX6) (N := 4) hx hb hts inG_X6 hown hK hP 0 rfl rfl 3 (by decide) (hts _ fl_X6_9) (fun _ h9 => h9) rfl dX6_isFull_1 ?_
  refine lv_aload_n hx hb dX6_isFull_4 rfl (lv_at hl 0 rfl) ?_
  refine va_get (D := G.1) (ci := 6) (v := .int 6) (C := RX6) (T := TX6) (N := 4) hx hb hts inG_X6 hown hK hP 0 rfl rfl 0 (by decide) (hts _ fl_X6_15) (fun _ h9 => h9) rfl dX6_isFull_5 ?_
  refine W.eq (g2 := F0 m 8 ls [.int 6, .int e_n]) rfl ?_
  refine lv_icmp_lt (tgt := 15) hx hb dX6_isFull_8 (by decide) (fun c_1 => ?_) (fun c_1 => ?_)
  ·
    have i_1 : e_n.toInt < 6 := by have z := g5_lt (a := e_n.toInt) (b := 6) (by rfl) (by decide) c_1; omega
    refine lv_iconst (v := 0) hx hb dX6_isFull_15 (by decide) ?_
    exact W.zret (v := 0) hx hb hr rfl (fun t ht hW => ⟨⟨0, [(a_t, (oc6 6 6 a_n e_n))], rfl, Or.inr (⟨by omega, rfl, rfl⟩), by rw [ht]; exact hP.sub [0] rfl, hD.sub [0] (by decide) rfl⟩, hS.F ht⟩) hS.2.2 dX6_isFull_16
  ·
    have i_1 : e_n.toInt ≥ 6 := by have z := g5_ltN (a := e_n.toInt) (b := 6) (by rfl) (by decide) c_1; omega
    refine lv_iconst (v := 1) hx hb dX6_isFull_11 (by decide) ?_
    refine lv_goto (tgt := 16) hx hb dX6_isFull_12 (by decide) ?_
    exact W.zret (v := 1) hx hb hr rfl (fun t ht hW => ⟨⟨1, [(a_t, (oc6 6 6 a_n e_n))], rfl, Or.inl (⟨by omega, rfl, rfl⟩), by rw [ht]; exact hP.sub [0] rfl, hD.sub [0] (by decide) rfl⟩, hS.F ht⟩) hS.2.2 dX6_isFull_16
set_option maxHeartbeats 4000000 in
set_option maxRecDepth 100000 in
theorem t_get_W (l : Launch) (G : g5_G) (a_t a_n : Nat) (sz : Nat) (e_n : Int32) (p_r : Int32) (p_c : Int32) (f_n : Nat → Int32) (h_e_n : 0 ≤ e_n.toInt ∧ e_n.toInt ≤ 6) : Met l yX6_get (wsG yX6_get cX6_get 3 (some .int)) ({ frames := 0, cells := 0, slots := 0, locals := 0 }) (va_Pc [.ref a_t, .int p_r, .int p_c] (g5_P G [(a_t, (oc6 6 6 a_n e_n)), (a_n, (arI G 36 f_n))] sz)) (va_Qi (fun (r : Int32) (u : va_W) => (∃ (o_r : Int32), (o_r = tget f_n e_n.toInt 6 p_r.toInt p_c.toInt) ∧ (r = o_r) ∧ (u = [(a_t, (oc6 6 6 a_n e_n)), (a_n, (arI G 36 f_n))]))) (g5_B G (va_A [(a_t, (oc6 6 6 a_n e_n)), (a_n, (arI G 36 f_n))] sz)) (va_A [(a_t, (oc6 6 6 a_n e_n)), (a_n, (arI G 36 f_n))] sz)) 0 0 (va_A [(a_t, (oc6 6 6 a_n e_n)), (a_n, (arI G 36 f_n))] sz) := by
  refine Met.ofW (cc := cX6_get) (maxL := 3) (ret := (some .int)) (by decide) rfl ?_
  intro p e s m args below meth c s₁ B hml hv
  obtain ⟨rfl, hsz, hP, hK, hD0, hN, hT⟩ := hv
  have hx := B.exec
  have hb := B.bytes
  have hr := B.returns
  have hts : ∀ w ∈ tblG, w.before _ s = true := fun w h => atoms_spec (ws := (wsG yX6_get cX6_get 3 (some .int))) B.pre w (List.mem_cons_of_mem _ h)
  have hown : s.vm.findClass RX6 = some m.cls := findClass_of_methodNamed B.named
  have hlocks := B.notSynchronized
  subst hsz
  have hD := hD0.self (sz := s.heap.size)
  generalize hAe : va_A [(a_t, (oc6 6 6 a_n e_n)), (a_n, (arI G 36 f_n))] s.heap.size = A at hD hT ⊢
  have hA : ∀ q : Nat, s.heap.size ≤ q → A q := fun q h => by rw [← hAe]; exact Or.inr h
  have hS : va_S A s.heap s.heap [] := va_S.rf
  have hP : va_P G.1 vwCl [(a_t, (oc6 6 6 a_n e_n)), (a_n, (arI G 36 f_n))] s.heap := hP
  have hl := lv_entry ([.ref a_t, .int p_r, .int p_c]) (n := 3) (Nat.le_of_ble_eq_true rfl)
  rw [lg_entry_eq]
  generalize (lg_sl ([.ref a_t, .int p_r, .int p_c]) ++ List.replicate (3 - (lg_sl ([.ref a_t, .int p_r, .int p_c])).length) Slot.unset).toArray = ls at hl ⊢
  have hl : lv_has ls 3 [(0, .ref a_t), (1, .int p_r), (2, .int p_c)] := hl
  refine lv_iload_n hx hb dX6_get_0 rfl (lv_at hl 1 rfl) ?_
  refine lv_if_lt (tgt := 24) hx hb dX6_get_1 (by decide) (fun c_1 => ?_) (fun c_1 => ?_)
  ·
    have i_1 : p_r.toInt < 0 := by have z := g5_lt (a := p_r.toInt) (b := 0) (by rfl) (by decide) c_1; omega
    refine lv_iconst (v := (-1)) hx hb dX6_get_24 (by decide) ?_
    exact W.iret (v := (-1)) hx hb hr (fun t ht hW => ⟨⟨(-1), [(a_t, (oc6 6 6 a_n e_n)), (a_n, (arI G 36 f_n))], rfl, ⟨(-1), qt_getN (by omega), rfl, rfl⟩, by rw [ht]; exact hP.sub [0, 1] rfl, hD.sub [0, 1] (by decide) rfl⟩, hS.F ht⟩) hS.2.2 dX6_get_25
  ·
    have i_1 : p_r.toInt ≥ 0 := by have z := g5_ltN (a := p_r.toInt) (b := 0) (by rfl) (by decide) c_1; omega
    refine lv_iload_n hx hb dX6_get_4 rfl (lv_at hl 1 rfl) ?_
    refine lv_aload_n hx hb dX6_get_5 rfl (lv_at hl 0 rfl) ?_
    refine va_get (D := G.1) (ci := 6) (v := .int e_n) (C := RX6) (T := TX6) (N := 4) hx hb hts inG_X6 hown hK hP 0 rfl rfl 3 (by decide) (hts _ fl_X6_9) (fun _ h9 => h9) rfl dX6_get_6 ?_
    refine lv_icmp_ge (tgt := 24) hx hb dX6_get_9 (by decide) (fun c_2 => ?_) (fun c_2 => ?_)
    ·
      have i_2 : p_r.toInt ≥ e_n.toInt := by have z := g5_ge (a := p_r.toInt) (b := e_n.toInt) (by rfl) (by rfl) c_2; omega
      refine lv_iconst (v := (-1)) hx hb dX6_get_24 (by decide) ?_
      exact W.iret (v := (-1)) hx hb hr (fun t ht hW => ⟨⟨(-1), [(a_t, (oc6 6 6 a_n e_n)), (a_n, (arI G 36 f_n))], rfl, ⟨(-1), qt_getN (by omega), rfl, rfl⟩, by rw [ht]; exact hP.sub [0, 1] rfl, hD.sub [0, 1] (by decide) rfl⟩, hS.F ht⟩) hS.2.2 dX6_get_25
    ·
      have i_2 : p_r.toInt < e_n.toInt := by have z := g5_geN (a := p_r.toInt) (b := e_n.toInt) (by rfl) (by rfl) c_2; omega
      refine lv_iload_n hx hb dX6_get_12 rfl (lv_at hl 2 rfl) ?_
      refine lv_if_lt (tgt := 24) hx hb dX6_get_13 (by decide) (fun c_3 => ?_) (fun c_3 => ?_)
      ·
        have i_3 : p_c.toInt < 0 := by have z := g5_lt (a := p_c.toInt) (b := 0) (by rfl) (by decide) c_3; omega
        refine lv_iconst (v := (-1)) hx hb dX6_get_24 (by decide) ?_
        exact W.iret (v := (-1)) hx hb hr (fun t ht hW => ⟨⟨(-1), [(a_t, (oc6 6 6 a_n e_n)), (a_n, (arI G 36 f_n))], rfl, ⟨(-1), qt_getN (by omega), rfl, rfl⟩, by rw [ht]; exact hP.sub [0, 1] rfl, hD.sub [0, 1] (by decide) rfl⟩, hS.F ht⟩) hS.2.2 dX6_get_25
      ·
        have i_3 : p_c.toInt ≥ 0 := by have z := g5_ltN (a := p_c.toInt) (b := 0) (by rfl) (by decide) c_3; omega
        refine lv_iload_n hx hb dX6_get_16 rfl (lv_at hl 2 rfl) ?_
        refine lv_aload_n hx hb dX6_get_17 rfl (lv_at hl 0 rfl) ?_
        refine va_get (D := G.1) (ci := 6) (v := .int 6) (C := RX6) (T := TX6) (N := 4) hx hb hts inG_X6 hown hK hP 0 rfl rfl 1 (by decide) (hts _ fl_X6_18) (fun _ h9 => h9) rfl dX6_get_18 ?_
        refine lv_icmp_lt (tgt := 26) hx hb dX6_get_21 (by decide) (fun c_4 => ?_) (fun c_4 => ?_)
        ·
          have i_4 : p_c.toInt < 6 := by have z := g5_lt (a := p_c.toInt) (b := 6) (by rfl) (by decide) c_4; omega
          refine lv_aload_n hx hb dX6_get_26 rfl (lv_at hl 0 rfl) ?_
          refine va_get (D := G.1) (ci := 6) (v := .ref a_n) (C := RX6) (T := TX6) (N := 4) hx hb hts inG_X6 hown hK hP 0 rfl rfl 2 (by decide) (hts _ fl_X6_21) (fun _ h9 => h9) rfl dX6_get_27 ?_
          refine lv_iload_n hx hb dX6_get_30 rfl (lv_at hl 1 rfl) ?_
          refine lv_aload_n hx hb dX6_get_31 rfl (lv_at hl 0 rfl) ?_
          refine W.eq (g2 := F0 m 32 ls [.ref a_t, .int p_r, .ref a_n]) rfl ?_
          refine va_get (D := G.1) (ci := 6) (v := .int 6) (C := RX6) (T := TX6) (N := 4) hx hb hts inG_X6 hown hK hP 0 rfl rfl 1 (by decide) (hts _ fl_X6_18) (fun _ h9 => h9) rfl dX6_get_32 ?_
          refine lv_imul hx hb dX6_get_35 ?_
          have t_5 : (p_r * 6).toInt = p_r.toInt * 6 := g5_imul (a := p_r.toInt) (b := 6) (by rfl) (by decide) (by omega) (by omega)
          refine lv_iload_n hx hb dX6_get_36 rfl (lv_at hl 2 rfl) ?_
          refine lv_iadd hx hb dX6_get_37 ?_
          have t_6 : ((p_r * 6) + p_c).toInt = (p_r * 6).toInt + p_c.toInt := g5_iadd (a := (p_r * 6).toInt) (b := p_c.toInt) (by rfl) (by rfl) (by omega) (by omega)
          refine va_iald hx hb hK hP 1 0 rfl rfl (i := ((p_r * 6) + p_c)) (vp_in_iff.mpr ⟨by omega, by omega⟩) dX6_get_38 ?_
          refine W.eq (g2 := F0 m 39 ls [.int (f_n ((p_r * 6) + p_c).toNatClampNeg)]) rfl ?_
          exact W.iret (v := (f_n ((p_r * 6) + p_c).toNatClampNeg)) hx hb hr (fun t ht hW => ⟨⟨(f_n ((p_r * 6) + p_c).toNatClampNeg), [(a_t, (oc6 6 6 a_n e_n)), (a_n, (arI G 36 f_n))], rfl, ⟨(f_n ((p_r * 6) + p_c).toNatClampNeg), qt_get (x := ((p_r * 6) + p_c)) (by omega) (by omega), rfl, rfl⟩, by rw [ht]; exact hP.sub [0, 1] rfl, hD.sub [0, 1] (by decide) rfl⟩, hS.F ht⟩) hS.2.2 dX6_get_39
        ·
          have i_4 : p_c.toInt ≥ 6 := by have z := g5_ltN (a := p_c.toInt) (b := 6) (by rfl) (by decide) c_4; omega
          refine lv_iconst (v := (-1)) hx hb dX6_get_24 (by decide) ?_
          exact W.iret (v := (-1)) hx hb hr (fun t ht hW => ⟨⟨(-1), [(a_t, (oc6 6 6 a_n e_n)), (a_n, (arI G 36 f_n))], rfl, ⟨(-1), qt_getN (by omega), rfl, rfl⟩, by rw [ht]; exact hP.sub [0, 1] rfl, hD.sub [0, 1] (by decide) rfl⟩, hS.F ht⟩) hS.2.2 dX6_get_25
set_option maxHeartbeats 4000000 in
set_option maxRecDepth 100000 in
theorem t_set_W (l : Launch) (G : g5_G) (a_t a_n : Nat) (sz : Nat) (e_n : Int32) (p_r : Int32) (p_c : Int32) (p_v : Int32) (f_n : Nat → Int32) (h_e_n : 0 ≤ e_n.toInt ∧ e_n.toInt ≤ 6) : Met l yX6_set (wsG yX6_set cX6_set 4 none) ({ frames := 1, cells := 0, slots := 0, locals := 21 }) (va_Pc [.ref a_t, .int p_r, .int p_c, .int p_v] (g5_P G [(a_t, (oc6 6 6 a_n e_n)), (a_n, (arI G 36 f_n))] sz)) (va_Qv (fun (u : va_W) => (∃ (o_f : Nat → Int32), (o_f = tset f_n e_n.toInt 6 p_r.toInt p_c.toInt p_v) ∧ (u = [(a_t, (oc6 6 6 a_n e_n)), (a_n, (arI G 36 o_f))]))) (g5_B G (va_A [(a_t, (oc6 6 6 a_n e_n)), (a_n, (arI G 36 f_n))] sz)) (va_A [(a_t, (oc6 6 6 a_n e_n)), (a_n, (arI G 36 f_n))] sz)) 0 0 (va_A [(a_t, (oc6 6 6 a_n e_n)), (a_n, (arI G 36 f_n))] sz) := by
  refine Met.ofW (cc := cX6_set) (maxL := 4) (ret := none) (by decide +kernel) rfl ?_
  intro p e s m args below meth c s₁ B hml hv
  obtain ⟨rfl, hsz, hP, hK, hD0, hN, hT⟩ := hv
  have hx := B.exec
  have hb := B.bytes
  have hr := B.returns
  have hts : ∀ w ∈ tblG, w.before _ s = true := fun w h => atoms_spec (ws := (wsG yX6_set cX6_set 4 none)) B.pre w (List.mem_cons_of_mem _ h)
  have hown : s.vm.findClass RX6 = some m.cls := findClass_of_methodNamed B.named
  have hlocks := B.notSynchronized
  subst hsz
  have hD := hD0.self (sz := s.heap.size)
  generalize hAe : va_A [(a_t, (oc6 6 6 a_n e_n)), (a_n, (arI G 36 f_n))] s.heap.size = A at hD hT ⊢
  have hA : ∀ q : Nat, s.heap.size ≤ q → A q := fun q h => by rw [← hAe]; exact Or.inr h
  have hS : va_S A s.heap s.heap [] := va_S.rf
  replace hP : va_P G.1 vwCl [(a_t, (oc6 6 6 a_n e_n)), (a_n, (arI G 36 f_n))] s.heap := hP
  have hl := lv_entry ([.ref a_t, .int p_r, .int p_c, .int p_v]) (n := 4) (Nat.le_of_ble_eq_true rfl)
  rw [lg_entry_eq]
  generalize (lg_sl ([.ref a_t, .int p_r, .int p_c, .int p_v]) ++ List.replicate (4 - (lg_sl ([.ref a_t, .int p_r, .int p_c, .int p_v])).length) Slot.unset).toArray = ls at hl ⊢
  replace hl : lv_has ls 4 [(0, .ref a_t), (1, .int p_r), (2, .int p_c), (3, .int p_v)] := hl
  refine lv_aload_n hx hb dX6_set_0 rfl (lv_at hl 0 rfl) ?_
  refine lv_iload_n hx hb dX6_set_1 rfl (lv_at hl 1 rfl) ?_
  obtain ⟨hPc, hDc, hFc⟩ := g5_sub3 (wc := [(a_t, (oc6 6 6 a_n e_n))]) hP hD hS hA [0] (by decide +kernel) rfl
  refine va_calli (va_runV (As := [.int p_r]) (rest := []) ⟨hx, hb, hml, hown, hts⟩ (t_has_W l G a_t a_n s.heap.size e_n p_r h_e_n) (cwV 1 hts gV_X6_25 rfl rfl rfl hv_X6_has ⟨Nat.le_of_ble_eq_true rfl, Nat.le_of_ble_eq_true rfl⟩) (g5_preV hPc hK hDc hN hT hS hFc (ci := 6) (q0 := 0) rfl rfl) rfl rfl hl.1 rfl (lv_room (Nat.le_of_ble_eq_true rfl)) dX6_set_2 ⟨Nat.le_of_ble_eq_true rfl, Nat.le_of_ble_eq_true rfl⟩) hS (fun q _ h => hFc q h) hFc (fun r u t H locs ht hvm hw hB hz1 hk1 hS => ?_)
  obtain ⟨hP1, hD1⟩ := hB
  have hP1 := g5_ht ht hP1
  rcases hw with ⟨(i_1 : 0 ≤ p_r.toInt ∧ p_r.toInt < e_n.toInt), rfl, rfl⟩ | ⟨(i_2 : p_r.toInt < 0 ∨ e_n.toInt ≤ p_r.toInt), rfl, rfl⟩
  ·
    have hJ9 := va_join (wr := [(a_n, (arI G 36 f_n))]) hP hD [0] [1] rfl rfl (by decide +kernel) (by decide +kernel) hk1 hFc hP1 hD1
    clear hP hD hPc hDc hFc ht hvm hz1 hk1 hP1 hD1
    obtain ⟨hP, hD⟩ := hJ9
    refine g5_rs [(a_n, (arI G 36 f_n)), (a_t, (oc6 6 6 a_n e_n))] hP hD ?_
    clear hP hD
    intro hP hD
    refine lv_if_eq (tgt := 34) hx hb dX6_set_5 (by decide +kernel) (fun c_3 => ?_) (fun c_3 => ?_)
    ·
      exact absurd c_3 (by decide +kernel)
    ·
      refine lv_iload_n hx hb dX6_set_8 rfl (lv_at hl 2 rfl) ?_
      refine lv_if_lt (tgt := 34) hx hb dX6_set_9 (by decide +kernel) (fun c_4 => ?_) (fun c_4 => ?_)
      ·
        have i_4 : p_c.toInt < 0 := g5_lt (a := p_c.toInt) (b := 0) rfl (by decide +kernel) c_4
        exact W.vret hx hb hr (fun t ht hW => ⟨⟨[(a_t, (oc6 6 6 a_n e_n)), (a_n, (arI G 36 f_n))], rfl, ⟨f_n, qt_setN (by omega), rfl⟩, by rw [ht]; exact hP.sub [1, 0] rfl, hD.sub [1, 0] (by decide +kernel) rfl⟩, hS.F ht⟩) hS.2.2 dX6_set_34
      ·
        have i_4 : p_c.toInt ≥ 0 := g5_ltN (a := p_c.toInt) (b := 0) rfl (by decide +kernel) c_4
        refine lv_iload_n hx hb dX6_set_12 rfl (lv_at hl 2 rfl) ?_
        refine lv_aload_n hx hb dX6_set_13 rfl (lv_at hl 0 rfl) ?_
        refine va_get (D := G.1) (ci := 6) (v := .int 6) (C := RX6) (T := TX6) (N := 4) hx hb hts inG_X6 hown hK hP 1 rfl rfl 1 (by decide +kernel) (hts _ fl_X6_18) (fun _ h9 => h9) rfl dX6_set_14 ?_
        refine lv_icmp_ge (tgt := 34) hx hb dX6_set_17 (by decide +kernel) (fun c_5 => ?_) (fun c_5 => ?_)
        ·
          have i_5 : p_c.toInt ≥ 6 := g5_ge (a := p_c.toInt) (b := 6) rfl (by decide +kernel) c_5
          exact W.vret hx hb hr (fun t ht hW => ⟨⟨[(a_t, (oc6 6 6 a_n e_n)), (a_n, (arI G 36 f_n))], rfl, ⟨f_n, qt_setN (by omega), rfl⟩, by rw [ht]; exact hP.sub [1, 0] rfl, hD.sub [1, 0] (by decide +kernel) rfl⟩, hS.F ht⟩) hS.2.2 dX6_set_34
        ·
          have i_5 : p_c.toInt < 6 := g5_geN (a := p_c.toInt) (b := 6) rfl (by decide +kernel) c_5
          refine lv_aload_n hx hb dX6_set_20 rfl (lv_at hl 0 rfl) ?_
          refine va_get (D := G.1) (ci := 6) (v := .ref a_n) (C := RX6) (T := TX6) (N := 4) hx hb hts inG_X6 hown hK hP 1 rfl rfl 2 (by decide +kernel) (hts _ fl_X6_21) (fun _ h9 => h9) rfl dX6_set_21 ?_
          refine lv_iload_n hx hb dX6_set_24 rfl (lv_at hl 1 rfl) ?_
          refine lv_aload_n hx hb dX6_set_25 rfl (lv_at hl 0 rfl) ?_
          refine W.eq (g2 := F0 m 26 ls [.ref a_t, .int p_r, .ref a_n]) rfl ?_
          refine va_get (D := G.1) (ci := 6) (v := .int 6) (C := RX6) (T := TX6) (N := 4) hx hb hts inG_X6 hown hK hP 1 rfl rfl 1 (by decide +kernel) (hts _ fl_X6_18) (fun _ h9 => h9) rfl dX6_set_26 ?_
          refine lv_imul hx hb dX6_set_29 ?_
          have t_6 : (p_r * 6).toInt = p_r.toInt * 6 := g5_imul (a := p_r.toInt) (b := 6) (by rfl) (by decide +kernel) (by omega) (by omega)
          refine lv_iload_n hx hb dX6_set_30 rfl (lv_at hl 2 rfl) ?_
          refine lv_iadd hx hb dX6_set_31 ?_
          have t_7 : ((p_r * 6) + p_c).toInt = (p_r * 6).toInt + p_c.toInt := g5_iadd (a := (p_r * 6).toInt) (b := p_c.toInt) (by rfl) (by rfl) (by omega) (by omega)
          refine lv_iload_n hx hb dX6_set_32 rfl (lv_at hl 3 rfl) ?_
          refine W.eq (g2 := F0 m 33 ls [.int p_v, .int ((p_r * 6) + p_c), .ref a_n]) rfl ?_
          refine va_iast hx hb hK hP hD hS 0 0 rfl rfl (i := ((p_r * 6) + p_c)) (x := p_v) (vp_in_iff.mpr ⟨by omega, by omega⟩) dX6_set_33 ?_
          clear hP hD hS
          intro H locs hP hD hS
          refine g5_rs [(a_n, (arI G 36 (upd f_n ((p_r * 6) + p_c).toNatClampNeg p_v))), (a_t, (oc6 6 6 a_n e_n))] hP hD ?_
          clear hP hD
          intro hP hD
          exact W.vret hx hb hr (fun t ht hW => ⟨⟨[(a_t, (oc6 6 6 a_n e_n)), (a_n, (arI G 36 (upd f_n ((p_r * 6) + p_c).toNatClampNeg p_v)))], rfl, ⟨(upd f_n ((p_r * 6) + p_c).toNatClampNeg p_v), qt_set (x := ((p_r * 6) + p_c)) (by omega) (by omega), rfl⟩, by rw [ht]; exact hP.sub [1, 0] rfl, hD.sub [1, 0] (by decide +kernel) rfl⟩, hS.F ht⟩) hS.2.2 dX6_set_34
  ·
    have hJ9 := va_join (wr := [(a_n, (arI G 36 f_n))]) hP hD [0] [1] rfl rfl (by decide +kernel) (by decide +kernel) hk1 hFc hP1 hD1
    clear hP hD hPc hDc hFc ht hvm hz1 hk1 hP1 hD1
    obtain ⟨hP, hD⟩ := hJ9
    refine g5_rs [(a_n, (arI G 36 f_n)), (a_t, (oc6 6 6 a_n e_n))] hP hD ?_
    clear hP hD
    intro hP hD
    refine lv_if_eq (tgt := 34) hx hb dX6_set_5 (by decide +kernel) (fun c_8 => ?_) (fun c_8 => ?_)
    ·
      exact W.vret hx hb hr (fun t ht hW => ⟨⟨[(a_t, (oc6 6 6 a_n e_n)), (a_n, (arI G 36 f_n))], rfl, ⟨f_n, qt_setN (by omega), rfl⟩, by rw [ht]; exact hP.sub [1, 0] rfl, hD.sub [1, 0] (by decide +kernel) rfl⟩, hS.F ht⟩) hS.2.2 dX6_set_34
    ·
      exact absurd c_8 (by decide +kernel)
set_option maxHeartbeats 4000000 in
set_option maxRecDepth 100000 in
theorem t_setLook_W (l : Launch) (G : g5_G) (a_t a_n : Nat) (sz : Nat) (e_n : Int32) (p_r : Int32) (p_a : Int32) (p_b : Int32) (p_c : Int32) (f_n : Nat → Int32) (h_e_n : 0 ≤ e_n.toInt ∧ e_n.toInt ≤ 6) : Met l yX6_setLook (wsG yX6_setLook cX6_setLook 5 none) ({ frames := 2, cells := 0, slots := 0, locals := 44 }) (va_Pc [.ref a_t, .int p_r, .int p_a, .int p_b, .int p_c] (g5_P G [(a_t, (oc6 6 6 a_n e_n)), (a_n, (arI G 36 f_n))] sz)) (va_Qv (fun (u : va_W) => (∃ (o_f : Nat → Int32), (o_f = tset (tset (tset f_n e_n.toInt 6 p_r.toInt (0 : Int32).toInt p_a) e_n.toInt 6 p_r.toInt (1 : Int32).toInt p_b) e_n.toInt 6 p_r.toInt (2 : Int32).toInt p_c) ∧ (u = [(a_t, (oc6 6 6 a_n e_n)), (a_n, (arI G 36 o_f))]))) (g5_B G (va_A [(a_t, (oc6 6 6 a_n e_n)), (a_n, (arI G 36 f_n))] sz)) (va_A [(a_t, (oc6 6 6 a_n e_n)), (a_n, (arI G 36 f_n))] sz)) 0 0 (va_A [(a_t, (oc6 6 6 a_n e_n)), (a_n, (arI G 36 f_n))] sz) := by
  refine Met.ofW (cc := cX6_setLook) (maxL := 5) (ret := none) (by decide +kernel) rfl ?_
  intro p e s m args below meth c s₁ B hml hv
  obtain ⟨rfl, hsz, hP, hK, hD0, hN, hT⟩ := hv
  have hx := B.exec
  have hb := B.bytes
  have hr := B.returns
  have hts : ∀ w ∈ tblG, w.before _ s = true := fun w h => atoms_spec (ws := (wsG yX6_setLook cX6_setLook 5 none)) B.pre w (List.mem_cons_of_mem _ h)
  have hown : s.vm.findClass RX6 = some m.cls := findClass_of_methodNamed B.named
  have hlocks := B.notSynchronized
  subst hsz
  have hD := hD0.self (sz := s.heap.size)
  generalize hAe : va_A [(a_t, (oc6 6 6 a_n e_n)), (a_n, (arI G 36 f_n))] s.heap.size = A at hD hT ⊢
  have hA : ∀ q : Nat, s.heap.size ≤ q → A q := fun q h => by rw [← hAe]; exact Or.inr h
  have hS : va_S A s.heap s.heap [] := va_S.rf
  replace hP : va_P G.1 vwCl [(a_t, (oc6 6 6 a_n e_n)), (a_n, (arI G 36 f_n))] s.heap := hP
  have hl := lv_entry ([.ref a_t, .int p_r, .int p_a, .int p_b, .int p_c]) (n := 5) (Nat.le_of_ble_eq_true rfl)
  rw [lg_entry_eq]
  generalize (lg_sl ([.ref a_t, .int p_r, .int p_a, .int p_b, .int p_c]) ++ List.replicate (5 - (lg_sl ([.ref a_t, .int p_r, .int p_a, .int p_b, .int p_c])).length) Slot.unset).toArray = ls at hl ⊢
  replace hl : lv_has ls 5 [(0, .ref a_t), (1, .int p_r), (2, .int p_a), (3, .int p_b), (4, .int p_c)] := hl
  refine lv_aload_n hx hb dX6_setLook_0 rfl (lv_at hl 0 rfl) ?_
  refine lv_iload_n hx hb dX6_setLook_1 rfl (lv_at hl 1 rfl) ?_
  refine lv_iconst (v := 0) hx hb dX6_setLook_2 (by decide +kernel) ?_
  refine lv_iload_n hx hb dX6_setLook_3 rfl (lv_at hl 2 rfl) ?_
  refine W.eq (g2 := F0 m 4 ls [.int p_a, .int 0, .int p_r, .ref a_t]) rfl ?_
  obtain ⟨hPc, hDc, hFc⟩ := g5_sub3 (wc := [(a_t, (oc6 6 6 a_n e_n)), (a_n, (arI G 36 f_n))]) hP hD hS hA [0, 1] (by decide +kernel) rfl
  refine va_callv (va_runV (As := [.int p_r, .int 0, .int p_a]) (rest := []) ⟨hx, hb, hml, hown, hts⟩ (t_set_W l G a_t a_n s.heap.size e_n p_r 0 p_a f_n h_e_n) (cwV 3 hts gV_X6_29 rfl rfl rfl hv_X6_set ⟨Nat.le_of_ble_eq_true rfl, Nat.le_of_ble_eq_true rfl⟩) (g5_preV hPc hK hDc hN hT hS hFc (ci := 6) (q0 := 0) rfl rfl) rfl rfl hl.1 rfl (lv_room (Nat.le_of_ble_eq_true rfl)) dX6_setLook_4 ⟨Nat.le_of_ble_eq_true rfl, Nat.le_of_ble_eq_true rfl⟩) hS (fun q _ h => hFc q h) hFc (fun u t H locs ht hvm hw hB hz1 hk1 hS => ?_)
  obtain ⟨hP1, hD1⟩ := hB
  have hP1 := g5_ht ht hP1
  obtain ⟨z2, (i_1 : z2 = tset f_n e_n.toInt 6 p_r.toInt (0 : Int32).toInt p_a), rfl⟩ := hw
  have hJ9 := va_join (wr := []) hP hD [0, 1] [] rfl rfl (by decide +kernel) (by decide +kernel) hk1 hFc hP1 hD1
  clear hP hD hPc hDc hFc ht hvm hz1 hk1 hP1 hD1
  obtain ⟨hP, hD⟩ := hJ9
  refine g5_rs [(a_t, (oc6 6 6 a_n e_n)), (a_n, (arI G 36 z2))] hP hD ?_
  clear hP hD
  intro hP hD
  refine lv_aload_n hx hb dX6_setLook_7 rfl (lv_at hl 0 rfl) ?_
  refine lv_iload_n hx hb dX6_setLook_8 rfl (lv_at hl 1 rfl) ?_
  refine lv_iconst (v := 1) hx hb dX6_setLook_9 (by decide +kernel) ?_
  refine lv_iload_n hx hb dX6_setLook_10 rfl (lv_at hl 3 rfl) ?_
  refine W.eq (g2 := F0 m 11 ls [.int p_b, .int 1, .int p_r, .ref a_t]) rfl ?_
  obtain ⟨hPc, hDc, hFc⟩ := g5_sub3 (wc := [(a_t, (oc6 6 6 a_n e_n)), (a_n, (arI G 36 z2))]) hP hD hS hA [0, 1] (by decide +kernel) rfl
  refine va_callv (va_runV (As := [.int p_r, .int 1, .int p_b]) (rest := []) ⟨hx, hb, hml, hown, hts⟩ (t_set_W l G a_t a_n H.size e_n p_r 1 p_b z2 h_e_n) (cwV 3 hts gV_X6_29 rfl rfl rfl hv_X6_set ⟨Nat.le_of_ble_eq_true rfl, Nat.le_of_ble_eq_true rfl⟩) (g5_preV hPc hK hDc hN hT hS hFc (ci := 6) (q0 := 0) rfl rfl) rfl rfl hl.1 rfl (lv_room (Nat.le_of_ble_eq_true rfl)) dX6_setLook_11 ⟨Nat.le_of_ble_eq_true rfl, Nat.le_of_ble_eq_true rfl⟩) hS (fun q _ h => hFc q h) hFc (fun u t H locs ht hvm hw hB hz1 hk1 hS => ?_)
  obtain ⟨hP1, hD1⟩ := hB
  have hP1 := g5_ht ht hP1
  obtain ⟨z4, (i_3 : z4 = tset z2 e_n.toInt 6 p_r.toInt (1 : Int32).toInt p_b), rfl⟩ := hw
  have hJ9 := va_join (wr := []) hP hD [0, 1] [] rfl rfl (by decide +kernel) (by decide +kernel) hk1 hFc hP1 hD1
  clear hP hD hPc hDc hFc ht hvm hz1 hk1 hP1 hD1
  obtain ⟨hP, hD⟩ := hJ9
  refine g5_rs [(a_t, (oc6 6 6 a_n e_n)), (a_n, (arI G 36 z4))] hP hD ?_
  clear hP hD
  intro hP hD
  refine lv_aload_n hx hb dX6_setLook_14 rfl (lv_at hl 0 rfl) ?_
  refine lv_iload_n hx hb dX6_setLook_15 rfl (lv_at hl 1 rfl) ?_
  refine lv_iconst (v := 2) hx hb dX6_setLook_16 (by decide +kernel) ?_
  refine lv_iload hx hb dX6_setLook_17 (lv_at hl 4 rfl) ?_
  refine W.eq (g2 := F0 m 19 ls [.int p_c, .int 2, .int p_r, .ref a_t]) rfl ?_
  obtain ⟨hPc, hDc, hFc⟩ := g5_sub3 (wc := [(a_t, (oc6 6 6 a_n e_n)), (a_n, (arI G 36 z4))]) hP hD hS hA [0, 1] (by decide +kernel) rfl
  refine va_callv (va_runV (As := [.int p_r, .int 2, .int p_c]) (rest := []) ⟨hx, hb, hml, hown, hts⟩ (t_set_W l G a_t a_n H.size e_n p_r 2 p_c z4 h_e_n) (cwV 3 hts gV_X6_29 rfl rfl rfl hv_X6_set ⟨Nat.le_of_ble_eq_true rfl, Nat.le_of_ble_eq_true rfl⟩) (g5_preV hPc hK hDc hN hT hS hFc (ci := 6) (q0 := 0) rfl rfl) rfl rfl hl.1 rfl (lv_room (Nat.le_of_ble_eq_true rfl)) dX6_setLook_19 ⟨Nat.le_of_ble_eq_true rfl, Nat.le_of_ble_eq_true rfl⟩) hS (fun q _ h => hFc q h) hFc (fun u t H locs ht hvm hw hB hz1 hk1 hS => ?_)
  obtain ⟨hP1, hD1⟩ := hB
  have hP1 := g5_ht ht hP1
  obtain ⟨z6, (i_5 : z6 = tset z4 e_n.toInt 6 p_r.toInt (2 : Int32).toInt p_c), rfl⟩ := hw
  have hJ9 := va_join (wr := []) hP hD [0, 1] [] rfl rfl (by decide +kernel) (by decide +kernel) hk1 hFc hP1 hD1
  clear hP hD hPc hDc hFc ht hvm hz1 hk1 hP1 hD1
  obtain ⟨hP, hD⟩ := hJ9
  refine g5_rs [(a_t, (oc6 6 6 a_n e_n)), (a_n, (arI G 36 z6))] hP hD ?_
  clear hP hD
  intro hP hD
  exact W.vret hx hb hr (fun t ht hW => ⟨⟨[(a_t, (oc6 6 6 a_n e_n)), (a_n, (arI G 36 z6))], rfl, ⟨z6, by rw [i_5, i_3, i_1], rfl⟩, by rw [ht]; exact hP.sub [0, 1] rfl, hD.sub [0, 1] (by decide +kernel) rfl⟩, hS.F ht⟩) hS.2.2 dX6_setLook_22
set_option maxHeartbeats 4000000 in
set_option maxRecDepth 100000 in
theorem t_open_W (l : Launch) (G : g5_G) (a_t a_n : Nat) (sz : Nat) (e_n : Int32) (p_v : Int32) (f_n : Nat → Int32) (h_e_n : 0 ≤ e_n.toInt ∧ e_n.toInt ≤ 6) : Met l yX6_open (wsG yX6_open cX6_open 4 (some .int)) ({ frames := 2, cells := 0, slots := 0, locals := 44 }) (va_Pc [.ref a_t, .int p_v] (g5_P G [(a_t, (oc6 6 6 a_n e_n)), (a_n, (arI G 36 f_n))] sz)) (va_Qi (fun (r : Int32) (u : va_W) => ((e_n.toInt = 6) ∧ (r = (-1)) ∧ (u = [(a_t, (oc6 6 6 a_n e_n)), (a_n, (arI G 36 f_n))])) ∨ (∃ (o_f : Nat → Int32), (e_n.toInt < 6) ∧ ((e_n + 1).toInt = e_n.toInt + 1) ∧ (o_f = tfil f_n e_n.toInt 6 p_v 6) ∧ (r = e_n) ∧ (u = [(a_t, (oc6 6 6 a_n (e_n + 1))), (a_n, (arI G 36 o_f))]))) (g5_B G (va_A [(a_t, (oc6 6 6 a_n e_n)), (a_n, (arI G 36 f_n))] sz)) (va_A [(a_t, (oc6 6 6 a_n e_n)), (a_n, (arI G 36 f_n))] sz)) 0 0 (va_A [(a_t, (oc6 6 6 a_n e_n)), (a_n, (arI G 36 f_n))] sz) := by
  refine Met.ofW (cc := cX6_open) (maxL := 4) (ret := (some .int)) (by decide +kernel) rfl ?_
  intro p e s m args below meth c s₁ B hml hv
  obtain ⟨rfl, hsz, hP, hK, hD0, hN, hT⟩ := hv
  have hx := B.exec
  have hb := B.bytes
  have hr := B.returns
  have hts : ∀ w ∈ tblG, w.before _ s = true := fun w h => atoms_spec (ws := (wsG yX6_open cX6_open 4 (some .int))) B.pre w (List.mem_cons_of_mem _ h)
  have hown : s.vm.findClass RX6 = some m.cls := findClass_of_methodNamed B.named
  have hlocks := B.notSynchronized
  subst hsz
  have hD := hD0.self (sz := s.heap.size)
  generalize hAe : va_A [(a_t, (oc6 6 6 a_n e_n)), (a_n, (arI G 36 f_n))] s.heap.size = A at hD hT ⊢
  have hA : ∀ q : Nat, s.heap.size ≤ q → A q := fun q h => by rw [← hAe]; exact Or.inr h
  have hS : va_S A s.heap s.heap [] := va_S.rf
  replace hP : va_P G.1 vwCl [(a_t, (oc6 6 6 a_n e_n)), (a_n, (arI G 36 f_n))] s.heap := hP
  have hl := lv_entry ([.ref a_t, .int p_v]) (n := 4) (Nat.le_of_ble_eq_true rfl)
  rw [lg_entry_eq]
  generalize (lg_sl ([.ref a_t, .int p_v]) ++ List.replicate (4 - (lg_sl ([.ref a_t, .int p_v])).length) Slot.unset).toArray = ls at hl ⊢
  replace hl : lv_has ls 4 [(0, .ref a_t), (1, .int p_v)] := hl
  refine lv_aload_n hx hb dX6_open_0 rfl (lv_at hl 0 rfl) ?_
  obtain ⟨hPc, hDc, hFc⟩ := g5_sub3 (wc := [(a_t, (oc6 6 6 a_n e_n))]) hP hD hS hA [0] (by decide +kernel) rfl
  refine va_calli (va_runV (As := []) (rest := []) ⟨hx, hb, hml, hown, hts⟩ (t_isFull_W l G a_t a_n s.heap.size e_n h_e_n) (cwV 0 hts gV_X6_33 rfl rfl rfl hv_X6_isFull ⟨Nat.le_of_ble_eq_true rfl, Nat.le_of_ble_eq_true rfl⟩) (g5_preV hPc hK hDc hN hT hS hFc (ci := 6) (q0 := 0) rfl rfl) rfl rfl hl.1 rfl (lv_room (Nat.le_of_ble_eq_true rfl)) dX6_open_1 ⟨Nat.le_of_ble_eq_true rfl, Nat.le_of_ble_eq_true rfl⟩) hS (fun q _ h => hFc q h) hFc (fun r u t H locs ht hvm hw hB hz1 hk1 hS => ?_)
  obtain ⟨hP1, hD1⟩ := hB
  have hP1 := g5_ht ht hP1
  rcases hw with ⟨(i_1 : e_n.toInt = 6), rfl, rfl⟩ | ⟨(i_2 : e_n.toInt < 6), rfl, rfl⟩
  ·
    have hJ9 := va_join (wr := [(a_n, (arI G 36 f_n))]) hP hD [0] [1] rfl rfl (by decide +kernel) (by decide +kernel) hk1 hFc hP1 hD1
    clear hP hD hPc hDc hFc ht hvm hz1 hk1 hP1 hD1
    obtain ⟨hP, hD⟩ := hJ9
    refine g5_rs [(a_n, (arI G 36 f_n)), (a_t, (oc6 6 6 a_n e_n))] hP hD ?_
    clear hP hD
    intro hP hD
    refine lv_if_eq (tgt := 9) hx hb dX6_open_4 (by decide +kernel) (fun c_3 => ?_) (fun c_3 => ?_)
    ·
      exact absurd c_3 (by decide +kernel)
    ·
      refine lv_iconst (v := (-1)) hx hb dX6_open_7 (by decide +kernel) ?_
      exact W.iret (v := (-1)) hx hb hr (fun t ht hW => ⟨⟨(-1), [(a_t, (oc6 6 6 a_n e_n)), (a_n, (arI G 36 f_n))], rfl, Or.inl (⟨by omega, rfl, rfl⟩), by rw [ht]; exact hP.sub [1, 0] rfl, hD.sub [1, 0] (by decide +kernel) rfl⟩, hS.F ht⟩) hS.2.2 dX6_open_8
  ·
    have hJ9 := va_join (wr := [(a_n, (arI G 36 f_n))]) hP hD [0] [1] rfl rfl (by decide +kernel) (by decide +kernel) hk1 hFc hP1 hD1
    clear hP hD hPc hDc hFc ht hvm hz1 hk1 hP1 hD1
    obtain ⟨hP, hD⟩ := hJ9
    refine g5_rs [(a_n, (arI G 36 f_n)), (a_t, (oc6 6 6 a_n e_n))] hP hD ?_
    clear hP hD
    intro hP hD
    refine lv_if_eq (tgt := 9) hx hb dX6_open_4 (by decide +kernel) (fun c_4 => ?_) (fun c_4 => ?_)
    ·
      refine lv_aload_n hx hb dX6_open_9 rfl (lv_at hl 0 rfl) ?_
      refine va_get (D := G.1) (ci := 6) (v := .int e_n) (C := RX6) (T := TX6) (N := 4) hx hb hts inG_X6 hown hK hP 1 rfl rfl 3 (by decide +kernel) (hts _ fl_X6_9) (fun _ h9 => h9) rfl dX6_open_10 ?_
      refine lv_istore_n (lv' := [(2, .int e_n), (0, .ref a_t), (1, .int p_v)]) hx hb dX6_open_13 rfl hl (by decide +kernel) rfl ?_
      clear hl
      intro ls hl
      refine lv_aload_n hx hb dX6_open_14 rfl (lv_at hl 1 rfl) ?_
      refine W.eq (g2 := F0 m 15 ls [.ref a_t]) rfl ?_
      refine lv_dup hx hb dX6_open_15 rfl ?_
      refine va_get (D := G.1) (ci := 6) (v := .int e_n) (C := RX6) (T := TX6) (N := 4) hx hb hts inG_X6 hown hK hP 1 rfl rfl 3 (by decide +kernel) (hts _ fl_X6_9) (fun _ h9 => h9) rfl dX6_open_16 ?_
      refine lv_iconst (v := 1) hx hb dX6_open_19 (by decide +kernel) ?_
      refine lv_iadd hx hb dX6_open_20 ?_
      have t_5 : (e_n + 1).toInt = e_n.toInt + 1 := g5_iadd (a := e_n.toInt) (b := 1) (by rfl) (by decide +kernel) (by omega) (by omega)
      refine va_put (D := G.1) (ci := 6) (v := .int (e_n + 1)) (ty := .int) (C := RX6) (T := TX6) (N := 4) hx hb hts inG_X6 tyX6 tyX6_ok nmX6 hown hK hP hD hS 1 rfl rfl 3 (by decide +kernel) (hts _ fl_X6_9) (fun _ h9 => h9) rfl (by decide +kernel) rfl rfl (Nat.le_of_ble_eq_true rfl) dX6_open_21 ?_
      clear hP hD hS
      intro H locs hP hD hS
      refine g5_rs [(a_n, (arI G 36 f_n)), (a_t, (oc6 6 6 a_n (e_n + 1)))] hP hD ?_
      clear hP hD
      intro hP hD
      refine W.eq (g2 := F0 m 24 ls []) rfl ?_
      refine lv_iconst (v := 0) hx hb dX6_open_24 (by decide +kernel) ?_
      refine lv_istore_n (lv' := [(3, .int 0), (2, .int e_n), (0, .ref a_t), (1, .int p_v)]) hx hb dX6_open_25 rfl hl (by decide +kernel) rfl ?_
      clear hl
      intro ls hl
      refine g5_loop (α := (Int32) × (Nat → Int32)) (fun (q : (Int32) × (Nat → Int32)) (ls : Array Slot) (H : Heap) (locs : List Loc) => match q with | (k_c, k_f) => lv_has ls 4 [(3, .int k_c), (2, .int e_n), (0, .ref a_t), (1, .int p_v)] ∧ va_P G.1 vwCl [(a_n, (arI G 36 k_f)), (a_t, (oc6 6 6 a_n (e_n + 1)))] H ∧ va_D A [(a_n, (arI G 36 k_f)), (a_t, (oc6 6 6 a_n (e_n + 1)))] ∧ va_S A s.heap H locs ∧ (0 ≤ k_c.toInt ∧ k_c.toInt ≤ 6) ∧ (k_f = tfil f_n e_n.toInt 6 p_v k_c.toInt)) (fun (q : (Int32) × (Nat → Int32)) => match q with | (k_c, k_f) => Int.toNat (6 - k_c.toInt)) (0, f_n) ⟨lv_sub hl [0, 1, 2, 3] rfl, hP, hD, hS, ⟨by decide, by decide⟩, qt_fil0⟩ ?_
      rintro ⟨k_c, k_f⟩ ls H locs ⟨hl, hP, hD, hS, (i_6 : 0 ≤ k_c.toInt ∧ k_c.toInt ≤ 6), (i_7 : k_f = tfil f_n e_n.toInt 6 p_v k_c.toInt)⟩ ih_26_8
      replace hl : lv_has ls 4 [(3, .int k_c), (2, .int e_n), (0, .ref a_t), (1, .int p_v)] := hl
      refine g5_rs [(a_n, (arI G 36 k_f)), (a_t, (oc6 6 6 a_n (e_n + 1)))] hP hD ?_
      clear hP hD
      intro hP hD
      refine lv_iload_n hx hb dX6_open_26 rfl (lv_at hl 0 rfl) ?_
      refine lv_aload_n hx hb dX6_open_27 rfl (lv_at hl 2 rfl) ?_
      refine va_get (D := G.1) (ci := 6) (v := .int 6) (C := RX6) (T := TX6) (N := 4) hx hb hts inG_X6 hown hK hP 1 rfl rfl 1 (by decide +kernel) (hts _ fl_X6_18) (fun _ h9 => h9) rfl dX6_open_28 ?_
      refine lv_icmp_ge (tgt := 47) hx hb dX6_open_31 (by decide +kernel) (fun c_9 => ?_) (fun c_9 => ?_)
      ·
        have i_9 : k_c.toInt ≥ 6 := g5_ge (a := k_c.toInt) (b := 6) rfl (by decide +kernel) c_9
        refine lv_iload_n hx hb dX6_open_47 rfl (lv_at hl 1 rfl) ?_
        exact W.iret (v := e_n) hx hb hr (fun t ht hW => ⟨⟨e_n, [(a_t, (oc6 6 6 a_n (e_n + 1))), (a_n, (arI G 36 k_f))], rfl, Or.inr (⟨k_f, by omega, by omega, by rw [i_7, show k_c.toInt = 6 by omega], rfl, rfl⟩), by rw [ht]; exact hP.sub [1, 0] rfl, hD.sub [1, 0] (by decide +kernel) rfl⟩, hS.F ht⟩) hS.2.2 dX6_open_48
      ·
        have i_9 : k_c.toInt < 6 := g5_geN (a := k_c.toInt) (b := 6) rfl (by decide +kernel) c_9
        refine lv_aload_n hx hb dX6_open_34 rfl (lv_at hl 2 rfl) ?_
        refine lv_iload_n hx hb dX6_open_35 rfl (lv_at hl 1 rfl) ?_
        refine lv_iload_n hx hb dX6_open_36 rfl (lv_at hl 0 rfl) ?_
        refine lv_iload_n hx hb dX6_open_37 rfl (lv_at hl 3 rfl) ?_
        refine W.eq (g2 := F0 m 38 ls [.int p_v, .int k_c, .int e_n, .ref a_t]) rfl ?_
        obtain ⟨hPc, hDc, hFc⟩ := g5_sub3 (wc := [(a_t, (oc6 6 6 a_n (e_n + 1))), (a_n, (arI G 36 k_f))]) hP hD hS hA [1, 0] (by decide +kernel) rfl
        refine va_callv (va_runV (As := [.int e_n, .int k_c, .int p_v]) (rest := []) ⟨hx, hb, hml, hown, hts⟩ (t_set_W l G a_t a_n H.size (e_n + 1) e_n k_c p_v k_f ⟨by omega, by omega⟩) (cwV 3 hts gV_X6_29 rfl rfl rfl hv_X6_set ⟨Nat.le_of_ble_eq_true rfl, Nat.le_of_ble_eq_true rfl⟩) (g5_preV hPc hK hDc hN hT hS hFc (ci := 6) (q0 := 0) rfl rfl) rfl rfl hl.1 rfl (lv_room (Nat.le_of_ble_eq_true rfl)) dX6_open_38 ⟨Nat.le_of_ble_eq_true rfl, Nat.le_of_ble_eq_true rfl⟩) hS (fun q _ h => hFc q h) hFc (fun u t H locs ht hvm hw hB hz1 hk1 hS => ?_)
        obtain ⟨hP1, hD1⟩ := hB
        have hP1 := g5_ht ht hP1
        obtain ⟨z11, (i_10 : z11 = tset k_f (e_n + 1).toInt 6 e_n.toInt k_c.toInt p_v), rfl⟩ := hw
        have hJ9 := va_join (wr := []) hP hD [1, 0] [] rfl rfl (by decide +kernel) (by decide +kernel) hk1 hFc hP1 hD1
        clear hP hD hPc hDc hFc ht hvm hz1 hk1 hP1 hD1
        obtain ⟨hP, hD⟩ := hJ9
        refine g5_rs [(a_t, (oc6 6 6 a_n (e_n + 1))), (a_n, (arI G 36 z11))] hP hD ?_
        clear hP hD
        intro hP hD
        refine lv_iinc (v := (k_c + 1)) (lv' := [(3, .int (k_c + 1)), (2, .int e_n), (0, .ref a_t), (1, .int p_v)]) hx hb dX6_open_41 hl (k := 0) rfl rfl (by decide +kernel) rfl ?_
        clear hl
        intro ls hl
        have t_12 : (k_c + 1).toInt = k_c.toInt + 1 := g5_iadd (a := k_c.toInt) (b := 1) rfl (by decide +kernel) (by omega) (by omega)
        refine lv_goto (tgt := 26) hx hb dX6_open_44 (by decide +kernel) ?_
        exact ih_26_8 ((k_c + 1), z11) ls H locs (show Int.toNat (6 - (k_c + 1).toInt) < Int.toNat (6 - k_c.toInt) from g_up (show k_c.toInt < (k_c + 1).toInt by omega) (show k_c.toInt < 6 by omega)) ⟨lv_sub hl [0, 1, 2, 3] rfl, hP.sub [1, 0] rfl, hD.sub [1, 0] (by decide +kernel) rfl, hS, ⟨by omega, by omega⟩, i_10.trans (qt_filS i_7 (by omega) (by omega) (by omega) (by omega) (by omega))⟩
    ·
      exact absurd c_4 (by decide +kernel)
theorem dgX6_copyFrom_0 : ∀ r ∈ ([(0, (.aload_n 1, 1)), (1, (.getfield 21, 3)), (4, (.arraylength, 1)), (5, (.aload_n 0, 1)), (6, (.getfield 21, 3)), (9, (.arraylength, 1)), (10, (.if_icmp .ne 29, 3)), (13, (.aload_n 1, 1)), (14, (.getfield 21, 3)), (17, (.iconst 0, 1)), (18, (.aload_n 0, 1)), (19, (.getfield 21, 3)), (22, (.iconst 0, 1)), (23, (.aload_n 0, 1)), (24, (.getfield 21, 3)), (27, (.arraylength, 1)), (28, (.invokestatic 37, 3)), (31, (.aload_n 0, 1)), (32, (.aload_n 1, 1)), (33, (.getfield 9, 3)), (36, (.putfield 9, 3)), (39, (.return_, 1))] : List (Nat × (Instr × Nat))), decode cX6_copyFrom r.1 = .ok r.2 := by decide +kernel
theorem dX6_copyFrom_0 : decode cX6_copyFrom 0 = .ok (.aload_n 1, 1) := dgX6_copyFrom_0 (0, (.aload_n 1, 1)) (List.mem_of_getElem? (i := 0) rfl)
theorem dX6_copyFrom_1 : decode cX6_copyFrom 1 = .ok (.getfield 21, 3) := dgX6_copyFrom_0 (1, (.getfield 21, 3)) (List.mem_of_getElem? (i := 1) rfl)
theorem dX6_copyFrom_4 : decode cX6_copyFrom 4 = .ok (.arraylength, 1) := dgX6_copyFrom_0 (4, (.arraylength, 1)) (List.mem_of_getElem? (i := 2) rfl)
theorem dX6_copyFrom_5 : decode cX6_copyFrom 5 = .ok (.aload_n 0, 1) := dgX6_copyFrom_0 (5, (.aload_n 0, 1)) (List.mem_of_getElem? (i := 3) rfl)
theorem dX6_copyFrom_6 : decode cX6_copyFrom 6 = .ok (.getfield 21, 3) := dgX6_copyFrom_0 (6, (.getfield 21, 3)) (List.mem_of_getElem? (i := 4) rfl)
theorem dX6_copyFrom_9 : decode cX6_copyFrom 9 = .ok (.arraylength, 1) := dgX6_copyFrom_0 (9, (.arraylength, 1)) (List.mem_of_getElem? (i := 5) rfl)
theorem dX6_copyFrom_10 : decode cX6_copyFrom 10 = .ok (.if_icmp .ne 29, 3) := dgX6_copyFrom_0 (10, (.if_icmp .ne 29, 3)) (List.mem_of_getElem? (i := 6) rfl)
theorem dX6_copyFrom_13 : decode cX6_copyFrom 13 = .ok (.aload_n 1, 1) := dgX6_copyFrom_0 (13, (.aload_n 1, 1)) (List.mem_of_getElem? (i := 7) rfl)
theorem dX6_copyFrom_14 : decode cX6_copyFrom 14 = .ok (.getfield 21, 3) := dgX6_copyFrom_0 (14, (.getfield 21, 3)) (List.mem_of_getElem? (i := 8) rfl)
theorem dX6_copyFrom_17 : decode cX6_copyFrom 17 = .ok (.iconst 0, 1) := dgX6_copyFrom_0 (17, (.iconst 0, 1)) (List.mem_of_getElem? (i := 9) rfl)
theorem dX6_copyFrom_18 : decode cX6_copyFrom 18 = .ok (.aload_n 0, 1) := dgX6_copyFrom_0 (18, (.aload_n 0, 1)) (List.mem_of_getElem? (i := 10) rfl)
theorem dX6_copyFrom_19 : decode cX6_copyFrom 19 = .ok (.getfield 21, 3) := dgX6_copyFrom_0 (19, (.getfield 21, 3)) (List.mem_of_getElem? (i := 11) rfl)
theorem dX6_copyFrom_22 : decode cX6_copyFrom 22 = .ok (.iconst 0, 1) := dgX6_copyFrom_0 (22, (.iconst 0, 1)) (List.mem_of_getElem? (i := 12) rfl)
theorem dX6_copyFrom_23 : decode cX6_copyFrom 23 = .ok (.aload_n 0, 1) := dgX6_copyFrom_0 (23, (.aload_n 0, 1)) (List.mem_of_getElem? (i := 13) rfl)
theorem dX6_copyFrom_24 : decode cX6_copyFrom 24 = .ok (.getfield 21, 3) := dgX6_copyFrom_0 (24, (.getfield 21, 3)) (List.mem_of_getElem? (i := 14) rfl)
theorem dX6_copyFrom_27 : decode cX6_copyFrom 27 = .ok (.arraylength, 1) := dgX6_copyFrom_0 (27, (.arraylength, 1)) (List.mem_of_getElem? (i := 15) rfl)
theorem dX6_copyFrom_28 : decode cX6_copyFrom 28 = .ok (.invokestatic 37, 3) := dgX6_copyFrom_0 (28, (.invokestatic 37, 3)) (List.mem_of_getElem? (i := 16) rfl)
theorem dX6_copyFrom_31 : decode cX6_copyFrom 31 = .ok (.aload_n 0, 1) := dgX6_copyFrom_0 (31, (.aload_n 0, 1)) (List.mem_of_getElem? (i := 17) rfl)
theorem dX6_copyFrom_32 : decode cX6_copyFrom 32 = .ok (.aload_n 1, 1) := dgX6_copyFrom_0 (32, (.aload_n 1, 1)) (List.mem_of_getElem? (i := 18) rfl)
theorem dX6_copyFrom_33 : decode cX6_copyFrom 33 = .ok (.getfield 9, 3) := dgX6_copyFrom_0 (33, (.getfield 9, 3)) (List.mem_of_getElem? (i := 19) rfl)
theorem dX6_copyFrom_36 : decode cX6_copyFrom 36 = .ok (.putfield 9, 3) := dgX6_copyFrom_0 (36, (.putfield 9, 3)) (List.mem_of_getElem? (i := 20) rfl)
theorem dX6_copyFrom_39 : decode cX6_copyFrom 39 = .ok (.return_, 1) := dgX6_copyFrom_0 (39, (.return_, 1)) (List.mem_of_getElem? (i := 21) rfl)
theorem ml_X6_37 : Cond.methodLink RX6 37 arraycopyName ∈ tblG := tg 946 (by decide +kernel) (by decide +kernel)
theorem ac_nat : Cond.native arraycopyName ∈ tblG := tg 773 (by decide +kernel) (by decide +kernel)
theorem ac_st : Cond.static arraycopyName ∈ tblG := tg 772 (by decide +kernel) (by decide +kernel)
theorem ac_ini : Cond.initialized "java/lang/System" ∈ tblG := tg 107 (by decide +kernel) (by decide +kernel)
set_option maxHeartbeats 4000000 in
set_option maxRecDepth 100000 in
theorem t_copyFrom_G (l : Launch) (G : g5_G) (a_t a_n a_o a_on : Nat) (sz : Nat) (e_n : Int32) (e_o : Int32) (f_n : Nat → Int32) (f_o : Nat → Int32) (h_e_n : 0 ≤ e_n.toInt ∧ e_n.toInt ≤ 6) (h_e_o : 0 ≤ e_o.toInt ∧ e_o.toInt ≤ 6) : Met l yX6_copyFrom (wsG yX6_copyFrom cX6_copyFrom 2 none) ({ frames := 1, cells := 0, slots := 0, locals := 60 }) (va_Pc [.ref a_t, .ref a_o] (g5_P G [(a_t, (oc6 6 5 a_n e_n)), (a_n, (arI G 30 f_n)), (a_o, (oc6 6 5 a_on e_o)), (a_on, (arI G 30 f_o))] sz)) (va_Qv (fun (u : va_W) => ((u = [(a_t, (oc6 6 5 a_n e_o)), (a_n, (arI G 30 (va_cpy f_o f_n 0 0 30))), (a_o, (oc6 6 5 a_on e_o)), (a_on, (arI G 30 f_o))]))) (g5_B G (va_A [(a_t, (oc6 6 5 a_n e_n)), (a_n, (arI G 30 f_n)), (a_o, (oc6 6 5 a_on e_o)), (a_on, (arI G 30 f_o))] sz)) (va_A [(a_t, (oc6 6 5 a_n e_n)), (a_n, (arI G 30 f_n)), (a_o, (oc6 6 5 a_on e_o)), (a_on, (arI G 30 f_o))] sz)) 0 0 (va_A [(a_t, (oc6 6 5 a_n e_n)), (a_n, (arI G 30 f_n)), (a_o, (oc6 6 5 a_on e_o)), (a_on, (arI G 30 f_o))] sz) := by
  refine Met.ofW (cc := cX6_copyFrom) (maxL := 2) (ret := none) (by decide +kernel) rfl ?_
  intro p e s m args below meth c s₁ B hml hv
  obtain ⟨rfl, hsz, hP, hK, hD0, hN, hT⟩ := hv
  have hx := B.exec
  have hb := B.bytes
  have hr := B.returns
  have hts : ∀ w ∈ tblG, w.before _ s = true := fun w h => atoms_spec (ws := (wsG yX6_copyFrom cX6_copyFrom 2 none)) B.pre w (List.mem_cons_of_mem _ h)
  have hown : s.vm.findClass RX6 = some m.cls := findClass_of_methodNamed B.named
  have hlocks := B.notSynchronized
  subst hsz
  have hD := hD0.self (sz := s.heap.size)
  generalize hAe : va_A [(a_t, (oc6 6 5 a_n e_n)), (a_n, (arI G 30 f_n)), (a_o, (oc6 6 5 a_on e_o)), (a_on, (arI G 30 f_o))] s.heap.size = A at hD hT ⊢
  have hA : ∀ q : Nat, s.heap.size ≤ q → A q := fun q h => by rw [← hAe]; exact Or.inr h
  have hS : va_S A s.heap s.heap [] := va_S.rf
  replace hP : va_P G.1 vwCl [(a_t, (oc6 6 5 a_n e_n)), (a_n, (arI G 30 f_n)), (a_o, (oc6 6 5 a_on e_o)), (a_on, (arI G 30 f_o))] s.heap := hP
  have hl := lv_entry ([.ref a_t, .ref a_o]) (n := 2) (Nat.le_of_ble_eq_true rfl)
  rw [lg_entry_eq]
  generalize (lg_sl ([.ref a_t, .ref a_o]) ++ List.replicate (2 - (lg_sl ([.ref a_t, .ref a_o])).length) Slot.unset).toArray = ls at hl ⊢
  replace hl : lv_has ls 2 [(0, .ref a_t), (1, .ref a_o)] := hl
  refine lv_aload_n hx hb dX6_copyFrom_0 rfl (lv_at hl 1 rfl) ?_
  refine va_get (D := G.1) (ci := 6) (v := .ref a_on) (C := RX6) (T := TX6) (N := 4) hx hb hts inG_X6 hown hK hP 2 rfl rfl 2 (by decide +kernel) (hts _ fl_X6_21) (fun _ h9 => h9) rfl dX6_copyFrom_1 ?_
  refine va_alen hx hb hK hP 3 0 rfl rfl (v := 30) (by show Int32.ofNat 30 = 30; decide) dX6_copyFrom_4 ?_
  refine lv_aload_n hx hb dX6_copyFrom_5 rfl (lv_at hl 0 rfl) ?_
  refine W.eq (g2 := F0 m 6 ls [.ref a_t, .int 30]) rfl ?_
  refine va_get (D := G.1) (ci := 6) (v := .ref a_n) (C := RX6) (T := TX6) (N := 4) hx hb hts inG_X6 hown hK hP 0 rfl rfl 2 (by decide +kernel) (hts _ fl_X6_21) (fun _ h9 => h9) rfl dX6_copyFrom_6 ?_
  refine va_alen hx hb hK hP 1 0 rfl rfl (v := 30) (by show Int32.ofNat 30 = 30; decide) dX6_copyFrom_9 ?_
  refine lv_icmp_ne (tgt := 39) hx hb dX6_copyFrom_10 (by decide +kernel) (fun c_1 => ?_) (fun c_1 => ?_)
  ·
    exact absurd c_1 (by decide +kernel)
  ·
    refine lv_aload_n hx hb dX6_copyFrom_13 rfl (lv_at hl 1 rfl) ?_
    refine va_get (D := G.1) (ci := 6) (v := .ref a_on) (C := RX6) (T := TX6) (N := 4) hx hb hts inG_X6 hown hK hP 2 rfl rfl 2 (by decide +kernel) (hts _ fl_X6_21) (fun _ h9 => h9) rfl dX6_copyFrom_14 ?_
    refine lv_iconst (v := 0) hx hb dX6_copyFrom_17 (by decide +kernel) ?_
    refine lv_aload_n hx hb dX6_copyFrom_18 rfl (lv_at hl 0 rfl) ?_
    refine W.eq (g2 := F0 m 19 ls [.ref a_t, .int 0, .ref a_on]) rfl ?_
    refine va_get (D := G.1) (ci := 6) (v := .ref a_n) (C := RX6) (T := TX6) (N := 4) hx hb hts inG_X6 hown hK hP 0 rfl rfl 2 (by decide +kernel) (hts _ fl_X6_21) (fun _ h9 => h9) rfl dX6_copyFrom_19 ?_
    refine lv_iconst (v := 0) hx hb dX6_copyFrom_22 (by decide +kernel) ?_
    refine lv_aload_n hx hb dX6_copyFrom_23 rfl (lv_at hl 0 rfl) ?_
    refine va_get (D := G.1) (ci := 6) (v := .ref a_n) (C := RX6) (T := TX6) (N := 4) hx hb hts inG_X6 hown hK hP 0 rfl rfl 2 (by decide +kernel) (hts _ fl_X6_21) (fun _ h9 => h9) rfl dX6_copyFrom_24 ?_
    refine va_alen hx hb hK hP 1 0 rfl rfl (v := 30) (by show Int32.ofNat 30 = 30; decide) dX6_copyFrom_27 ?_
    refine W.eq (g2 := F0 m 28 ls [.int 30, .int 0, .ref a_n, .int 0, .ref a_on]) rfl ?_
    refine va_copyi hx hb (hml.trans hl.1.symm) hown (hts _ ml_X6_37) (hts _ ac_nat) (hts _ ac_st) (hts _ ac_ini) hK hP hD hS 3 1 0 0 rfl rfl rfl rfl rfl (sp := 0) (dp := 0) (n := 30) (by decide +kernel) (by decide +kernel) (by decide +kernel) (by decide +kernel) (by decide +kernel) (fun _ _ => rfl) (Nat.le_of_ble_eq_true rfl) (by decide +kernel) dX6_copyFrom_28 ?_
    clear hP hD hS
    intro H locs hP hD hS
    refine g5_rs [(a_t, (oc6 6 5 a_n e_n)), (a_n, (arI G 30 (va_cpy f_o f_n 0 0 30))), (a_o, (oc6 6 5 a_on e_o)), (a_on, (arI G 30 f_o))] hP hD ?_
    clear hP hD
    intro hP hD
    refine lv_aload_n hx hb dX6_copyFrom_31 rfl (lv_at hl 0 rfl) ?_
    refine lv_aload_n hx hb dX6_copyFrom_32 rfl (lv_at hl 1 rfl) ?_
    refine va_get (D := G.1) (ci := 6) (v := .int e_o) (C := RX6) (T := TX6) (N := 4) hx hb hts inG_X6 hown hK hP 2 rfl rfl 3 (by decide +kernel) (hts _ fl_X6_9) (fun _ h9 => h9) rfl dX6_copyFrom_33 ?_
    refine va_put (D := G.1) (ci := 6) (v := .int e_o) (ty := .int) (C := RX6) (T := TX6) (N := 4) hx hb hts inG_X6 tyX6 tyX6_ok nmX6 hown hK hP hD hS 0 rfl rfl 3 (by decide +kernel) (hts _ fl_X6_9) (fun _ h9 => h9) rfl (by decide +kernel) rfl rfl (Nat.le_of_ble_eq_true rfl) dX6_copyFrom_36 ?_
    clear hP hD hS
    intro H locs hP hD hS
    refine g5_rs [(a_t, (oc6 6 5 a_n e_o)), (a_n, (arI G 30 (va_cpy f_o f_n 0 0 30))), (a_o, (oc6 6 5 a_on e_o)), (a_on, (arI G 30 f_o))] hP hD ?_
    clear hP hD
    intro hP hD
    refine W.eq (g2 := F0 m 39 ls []) rfl ?_
    exact W.vret hx hb hr (fun t ht hW => ⟨⟨[(a_t, (oc6 6 5 a_n e_o)), (a_n, (arI G 30 (va_cpy f_o f_n 0 0 30))), (a_o, (oc6 6 5 a_on e_o)), (a_on, (arI G 30 f_o))], rfl, rfl, by rw [ht]; exact hP.sub [0, 1, 2, 3] rfl, hD.sub [0, 1, 2, 3] (by decide +kernel) rfl⟩, hS.F ht⟩) hS.2.2 dX6_copyFrom_39
set_option maxHeartbeats 4000000 in
set_option maxRecDepth 100000 in
theorem t_copyFrom_B (l : Launch) (G : g5_G) (a_t a_n a_o a_on : Nat) (sz : Nat) (e_n : Int32) (e_o : Int32) (f_n : Nat → Int32) (f_o : Nat → Int32) (h_e_n : 0 ≤ e_n.toInt ∧ e_n.toInt ≤ 5) (h_e_o : 0 ≤ e_o.toInt ∧ e_o.toInt ≤ 5) : Met l yX6_copyFrom (wsG yX6_copyFrom cX6_copyFrom 2 none) ({ frames := 1, cells := 0, slots := 0, locals := 60 }) (va_Pc [.ref a_t, .ref a_o] (g5_P G [(a_t, (oc6 5 24 a_n e_n)), (a_n, (arI G 120 f_n)), (a_o, (oc6 5 24 a_on e_o)), (a_on, (arI G 120 f_o))] sz)) (va_Qv (fun (u : va_W) => ((u = [(a_t, (oc6 5 24 a_n e_o)), (a_n, (arI G 120 (va_cpy f_o f_n 0 0 120))), (a_o, (oc6 5 24 a_on e_o)), (a_on, (arI G 120 f_o))]))) (g5_B G (va_A [(a_t, (oc6 5 24 a_n e_n)), (a_n, (arI G 120 f_n)), (a_o, (oc6 5 24 a_on e_o)), (a_on, (arI G 120 f_o))] sz)) (va_A [(a_t, (oc6 5 24 a_n e_n)), (a_n, (arI G 120 f_n)), (a_o, (oc6 5 24 a_on e_o)), (a_on, (arI G 120 f_o))] sz)) 0 0 (va_A [(a_t, (oc6 5 24 a_n e_n)), (a_n, (arI G 120 f_n)), (a_o, (oc6 5 24 a_on e_o)), (a_on, (arI G 120 f_o))] sz) := by
  refine Met.ofW (cc := cX6_copyFrom) (maxL := 2) (ret := none) (by decide +kernel) rfl ?_
  intro p e s m args below meth c s₁ B hml hv
  obtain ⟨rfl, hsz, hP, hK, hD0, hN, hT⟩ := hv
  have hx := B.exec
  have hb := B.bytes
  have hr := B.returns
  have hts : ∀ w ∈ tblG, w.before _ s = true := fun w h => atoms_spec (ws := (wsG yX6_copyFrom cX6_copyFrom 2 none)) B.pre w (List.mem_cons_of_mem _ h)
  have hown : s.vm.findClass RX6 = some m.cls := findClass_of_methodNamed B.named
  have hlocks := B.notSynchronized
  subst hsz
  have hD := hD0.self (sz := s.heap.size)
  generalize hAe : va_A [(a_t, (oc6 5 24 a_n e_n)), (a_n, (arI G 120 f_n)), (a_o, (oc6 5 24 a_on e_o)), (a_on, (arI G 120 f_o))] s.heap.size = A at hD hT ⊢
  have hA : ∀ q : Nat, s.heap.size ≤ q → A q := fun q h => by rw [← hAe]; exact Or.inr h
  have hS : va_S A s.heap s.heap [] := va_S.rf
  replace hP : va_P G.1 vwCl [(a_t, (oc6 5 24 a_n e_n)), (a_n, (arI G 120 f_n)), (a_o, (oc6 5 24 a_on e_o)), (a_on, (arI G 120 f_o))] s.heap := hP
  have hl := lv_entry ([.ref a_t, .ref a_o]) (n := 2) (Nat.le_of_ble_eq_true rfl)
  rw [lg_entry_eq]
  generalize (lg_sl ([.ref a_t, .ref a_o]) ++ List.replicate (2 - (lg_sl ([.ref a_t, .ref a_o])).length) Slot.unset).toArray = ls at hl ⊢
  replace hl : lv_has ls 2 [(0, .ref a_t), (1, .ref a_o)] := hl
  refine lv_aload_n hx hb dX6_copyFrom_0 rfl (lv_at hl 1 rfl) ?_
  refine va_get (D := G.1) (ci := 6) (v := .ref a_on) (C := RX6) (T := TX6) (N := 4) hx hb hts inG_X6 hown hK hP 2 rfl rfl 2 (by decide +kernel) (hts _ fl_X6_21) (fun _ h9 => h9) rfl dX6_copyFrom_1 ?_
  refine va_alen hx hb hK hP 3 0 rfl rfl (v := 120) (by show Int32.ofNat 120 = 120; decide) dX6_copyFrom_4 ?_
  refine lv_aload_n hx hb dX6_copyFrom_5 rfl (lv_at hl 0 rfl) ?_
  refine W.eq (g2 := F0 m 6 ls [.ref a_t, .int 120]) rfl ?_
  refine va_get (D := G.1) (ci := 6) (v := .ref a_n) (C := RX6) (T := TX6) (N := 4) hx hb hts inG_X6 hown hK hP 0 rfl rfl 2 (by decide +kernel) (hts _ fl_X6_21) (fun _ h9 => h9) rfl dX6_copyFrom_6 ?_
  refine va_alen hx hb hK hP 1 0 rfl rfl (v := 120) (by show Int32.ofNat 120 = 120; decide) dX6_copyFrom_9 ?_
  refine lv_icmp_ne (tgt := 39) hx hb dX6_copyFrom_10 (by decide +kernel) (fun c_1 => ?_) (fun c_1 => ?_)
  ·
    exact absurd c_1 (by decide +kernel)
  ·
    refine lv_aload_n hx hb dX6_copyFrom_13 rfl (lv_at hl 1 rfl) ?_
    refine va_get (D := G.1) (ci := 6) (v := .ref a_on) (C := RX6) (T := TX6) (N := 4) hx hb hts inG_X6 hown hK hP 2 rfl rfl 2 (by decide +kernel) (hts _ fl_X6_21) (fun _ h9 => h9) rfl dX6_copyFrom_14 ?_
    refine lv_iconst (v := 0) hx hb dX6_copyFrom_17 (by decide +kernel) ?_
    refine lv_aload_n hx hb dX6_copyFrom_18 rfl (lv_at hl 0 rfl) ?_
    refine W.eq (g2 := F0 m 19 ls [.ref a_t, .int 0, .ref a_on]) rfl ?_
    refine va_get (D := G.1) (ci := 6) (v := .ref a_n) (C := RX6) (T := TX6) (N := 4) hx hb hts inG_X6 hown hK hP 0 rfl rfl 2 (by decide +kernel) (hts _ fl_X6_21) (fun _ h9 => h9) rfl dX6_copyFrom_19 ?_
    refine lv_iconst (v := 0) hx hb dX6_copyFrom_22 (by decide +kernel) ?_
    refine lv_aload_n hx hb dX6_copyFrom_23 rfl (lv_at hl 0 rfl) ?_
    refine va_get (D := G.1) (ci := 6) (v := .ref a_n) (C := RX6) (T := TX6) (N := 4) hx hb hts inG_X6 hown hK hP 0 rfl rfl 2 (by decide +kernel) (hts _ fl_X6_21) (fun _ h9 => h9) rfl dX6_copyFrom_24 ?_
    refine va_alen hx hb hK hP 1 0 rfl rfl (v := 120) (by show Int32.ofNat 120 = 120; decide) dX6_copyFrom_27 ?_
    refine W.eq (g2 := F0 m 28 ls [.int 120, .int 0, .ref a_n, .int 0, .ref a_on]) rfl ?_
    refine va_copyi hx hb (hml.trans hl.1.symm) hown (hts _ ml_X6_37) (hts _ ac_nat) (hts _ ac_st) (hts _ ac_ini) hK hP hD hS 3 1 0 0 rfl rfl rfl rfl rfl (sp := 0) (dp := 0) (n := 120) (by decide +kernel) (by decide +kernel) (by decide +kernel) (by decide +kernel) (by decide +kernel) (fun _ _ => rfl) (Nat.le_of_ble_eq_true rfl) (by decide +kernel) dX6_copyFrom_28 ?_
    clear hP hD hS
    intro H locs hP hD hS
    refine g5_rs [(a_t, (oc6 5 24 a_n e_n)), (a_n, (arI G 120 (va_cpy f_o f_n 0 0 120))), (a_o, (oc6 5 24 a_on e_o)), (a_on, (arI G 120 f_o))] hP hD ?_
    clear hP hD
    intro hP hD
    refine lv_aload_n hx hb dX6_copyFrom_31 rfl (lv_at hl 0 rfl) ?_
    refine lv_aload_n hx hb dX6_copyFrom_32 rfl (lv_at hl 1 rfl) ?_
    refine va_get (D := G.1) (ci := 6) (v := .int e_o) (C := RX6) (T := TX6) (N := 4) hx hb hts inG_X6 hown hK hP 2 rfl rfl 3 (by decide +kernel) (hts _ fl_X6_9) (fun _ h9 => h9) rfl dX6_copyFrom_33 ?_
    refine va_put (D := G.1) (ci := 6) (v := .int e_o) (ty := .int) (C := RX6) (T := TX6) (N := 4) hx hb hts inG_X6 tyX6 tyX6_ok nmX6 hown hK hP hD hS 0 rfl rfl 3 (by decide +kernel) (hts _ fl_X6_9) (fun _ h9 => h9) rfl (by decide +kernel) rfl rfl (Nat.le_of_ble_eq_true rfl) dX6_copyFrom_36 ?_
    clear hP hD hS
    intro H locs hP hD hS
    refine g5_rs [(a_t, (oc6 5 24 a_n e_o)), (a_n, (arI G 120 (va_cpy f_o f_n 0 0 120))), (a_o, (oc6 5 24 a_on e_o)), (a_on, (arI G 120 f_o))] hP hD ?_
    clear hP hD
    intro hP hD
    refine W.eq (g2 := F0 m 39 ls []) rfl ?_
    exact W.vret hx hb hr (fun t ht hW => ⟨⟨[(a_t, (oc6 5 24 a_n e_o)), (a_n, (arI G 120 (va_cpy f_o f_n 0 0 120))), (a_o, (oc6 5 24 a_on e_o)), (a_on, (arI G 120 f_o))], rfl, rfl, by rw [ht]; exact hP.sub [0, 1, 2, 3] rfl, hD.sub [0, 1, 2, 3] (by decide +kernel) rfl⟩, hS.F ht⟩) hS.2.2 dX6_copyFrom_39
theorem dgX6_remove_0 : ∀ r ∈ ([(0, (.aload_n 0, 1)), (1, (.iload_n 1, 1)), (2, (.invokevirtual 25, 3)), (5, (.ifCond .ne 4, 3)), (8, (.return_, 1)), (9, (.iload_n 1, 1)), (10, (.iconst 1, 1)), (11, (.iadd, 1)), (12, (.aload_n 0, 1)), (13, (.getfield 18, 3)), (16, (.imul, 1)), (17, (.istore_n 2, 1)), (18, (.aload_n 0, 1)), (19, (.getfield 21, 3)), (22, (.iload_n 2, 1)), (23, (.aload_n 0, 1)), (24, (.getfield 21, 3)), (27, (.iload_n 1, 1)), (28, (.aload_n 0, 1)), (29, (.getfield 18, 3)), (32, (.imul, 1)), (33, (.aload_n 0, 1)), (34, (.getfield 9, 3)), (37, (.aload_n 0, 1)), (38, (.getfield 18, 3)), (41, (.imul, 1)), (42, (.iload_n 2, 1)), (43, (.isub, 1)), (44, (.invokestatic 37, 3)), (47, (.aload_n 0, 1)), (48, (.dup, 1)), (49, (.getfield 9, 3)), (52, (.iconst 1, 1)), (53, (.isub, 1)), (54, (.putfield 9, 3)), (57, (.return_, 1))] : List (Nat × (Instr × Nat))), decode cX6_remove r.1 = .ok r.2 := by decide +kernel
theorem dX6_remove_0 : decode cX6_remove 0 = .ok (.aload_n 0, 1) := dgX6_remove_0 (0, (.aload_n 0, 1)) (List.mem_of_getElem? (i := 0) rfl)
theorem dX6_remove_1 : decode cX6_remove 1 = .ok (.iload_n 1, 1) := dgX6_remove_0 (1, (.iload_n 1, 1)) (List.mem_of_getElem? (i := 1) rfl)
theorem dX6_remove_2 : decode cX6_remove 2 = .ok (.invokevirtual 25, 3) := dgX6_remove_0 (2, (.invokevirtual 25, 3)) (List.mem_of_getElem? (i := 2) rfl)
theorem dX6_remove_5 : decode cX6_remove 5 = .ok (.ifCond .ne 4, 3) := dgX6_remove_0 (5, (.ifCond .ne 4, 3)) (List.mem_of_getElem? (i := 3) rfl)
theorem dX6_remove_8 : decode cX6_remove 8 = .ok (.return_, 1) := dgX6_remove_0 (8, (.return_, 1)) (List.mem_of_getElem? (i := 4) rfl)
theorem dX6_remove_9 : decode cX6_remove 9 = .ok (.iload_n 1, 1) := dgX6_remove_0 (9, (.iload_n 1, 1)) (List.mem_of_getElem? (i := 5) rfl)
theorem dX6_remove_10 : decode cX6_remove 10 = .ok (.iconst 1, 1) := dgX6_remove_0 (10, (.iconst 1, 1)) (List.mem_of_getElem? (i := 6) rfl)
theorem dX6_remove_11 : decode cX6_remove 11 = .ok (.iadd, 1) := dgX6_remove_0 (11, (.iadd, 1)) (List.mem_of_getElem? (i := 7) rfl)
theorem dX6_remove_12 : decode cX6_remove 12 = .ok (.aload_n 0, 1) := dgX6_remove_0 (12, (.aload_n 0, 1)) (List.mem_of_getElem? (i := 8) rfl)
theorem dX6_remove_13 : decode cX6_remove 13 = .ok (.getfield 18, 3) := dgX6_remove_0 (13, (.getfield 18, 3)) (List.mem_of_getElem? (i := 9) rfl)
theorem dX6_remove_16 : decode cX6_remove 16 = .ok (.imul, 1) := dgX6_remove_0 (16, (.imul, 1)) (List.mem_of_getElem? (i := 10) rfl)
theorem dX6_remove_17 : decode cX6_remove 17 = .ok (.istore_n 2, 1) := dgX6_remove_0 (17, (.istore_n 2, 1)) (List.mem_of_getElem? (i := 11) rfl)
theorem dX6_remove_18 : decode cX6_remove 18 = .ok (.aload_n 0, 1) := dgX6_remove_0 (18, (.aload_n 0, 1)) (List.mem_of_getElem? (i := 12) rfl)
theorem dX6_remove_19 : decode cX6_remove 19 = .ok (.getfield 21, 3) := dgX6_remove_0 (19, (.getfield 21, 3)) (List.mem_of_getElem? (i := 13) rfl)
theorem dX6_remove_22 : decode cX6_remove 22 = .ok (.iload_n 2, 1) := dgX6_remove_0 (22, (.iload_n 2, 1)) (List.mem_of_getElem? (i := 14) rfl)
theorem dX6_remove_23 : decode cX6_remove 23 = .ok (.aload_n 0, 1) := dgX6_remove_0 (23, (.aload_n 0, 1)) (List.mem_of_getElem? (i := 15) rfl)
theorem dX6_remove_24 : decode cX6_remove 24 = .ok (.getfield 21, 3) := dgX6_remove_0 (24, (.getfield 21, 3)) (List.mem_of_getElem? (i := 16) rfl)
theorem dX6_remove_27 : decode cX6_remove 27 = .ok (.iload_n 1, 1) := dgX6_remove_0 (27, (.iload_n 1, 1)) (List.mem_of_getElem? (i := 17) rfl)
theorem dX6_remove_28 : decode cX6_remove 28 = .ok (.aload_n 0, 1) := dgX6_remove_0 (28, (.aload_n 0, 1)) (List.mem_of_getElem? (i := 18) rfl)
theorem dX6_remove_29 : decode cX6_remove 29 = .ok (.getfield 18, 3) := dgX6_remove_0 (29, (.getfield 18, 3)) (List.mem_of_getElem? (i := 19) rfl)
theorem dX6_remove_32 : decode cX6_remove 32 = .ok (.imul, 1) := dgX6_remove_0 (32, (.imul, 1)) (List.mem_of_getElem? (i := 20) rfl)
theorem dX6_remove_33 : decode cX6_remove 33 = .ok (.aload_n 0, 1) := dgX6_remove_0 (33, (.aload_n 0, 1)) (List.mem_of_getElem? (i := 21) rfl)
theorem dX6_remove_34 : decode cX6_remove 34 = .ok (.getfield 9, 3) := dgX6_remove_0 (34, (.getfield 9, 3)) (List.mem_of_getElem? (i := 22) rfl)
theorem dX6_remove_37 : decode cX6_remove 37 = .ok (.aload_n 0, 1) := dgX6_remove_0 (37, (.aload_n 0, 1)) (List.mem_of_getElem? (i := 23) rfl)
theorem dX6_remove_38 : decode cX6_remove 38 = .ok (.getfield 18, 3) := dgX6_remove_0 (38, (.getfield 18, 3)) (List.mem_of_getElem? (i := 24) rfl)
theorem dX6_remove_41 : decode cX6_remove 41 = .ok (.imul, 1) := dgX6_remove_0 (41, (.imul, 1)) (List.mem_of_getElem? (i := 25) rfl)
theorem dX6_remove_42 : decode cX6_remove 42 = .ok (.iload_n 2, 1) := dgX6_remove_0 (42, (.iload_n 2, 1)) (List.mem_of_getElem? (i := 26) rfl)
theorem dX6_remove_43 : decode cX6_remove 43 = .ok (.isub, 1) := dgX6_remove_0 (43, (.isub, 1)) (List.mem_of_getElem? (i := 27) rfl)
theorem dX6_remove_44 : decode cX6_remove 44 = .ok (.invokestatic 37, 3) := dgX6_remove_0 (44, (.invokestatic 37, 3)) (List.mem_of_getElem? (i := 28) rfl)
theorem dX6_remove_47 : decode cX6_remove 47 = .ok (.aload_n 0, 1) := dgX6_remove_0 (47, (.aload_n 0, 1)) (List.mem_of_getElem? (i := 29) rfl)
theorem dX6_remove_48 : decode cX6_remove 48 = .ok (.dup, 1) := dgX6_remove_0 (48, (.dup, 1)) (List.mem_of_getElem? (i := 30) rfl)
theorem dX6_remove_49 : decode cX6_remove 49 = .ok (.getfield 9, 3) := dgX6_remove_0 (49, (.getfield 9, 3)) (List.mem_of_getElem? (i := 31) rfl)
theorem dX6_remove_52 : decode cX6_remove 52 = .ok (.iconst 1, 1) := dgX6_remove_0 (52, (.iconst 1, 1)) (List.mem_of_getElem? (i := 32) rfl)
theorem dX6_remove_53 : decode cX6_remove 53 = .ok (.isub, 1) := dgX6_remove_0 (53, (.isub, 1)) (List.mem_of_getElem? (i := 33) rfl)
theorem dX6_remove_54 : decode cX6_remove 54 = .ok (.putfield 9, 3) := dgX6_remove_0 (54, (.putfield 9, 3)) (List.mem_of_getElem? (i := 34) rfl)
theorem dX6_remove_57 : decode cX6_remove 57 = .ok (.return_, 1) := dgX6_remove_0 (57, (.return_, 1)) (List.mem_of_getElem? (i := 35) rfl)
set_option maxHeartbeats 4000000 in
set_option maxRecDepth 100000 in
theorem t_remove_S (l : Launch) (G : g5_G) (a_t a_n : Nat) (sz : Nat) (e_n : Int32) (p_r : Int32) (f_n : Nat → Int32) (h_e_n : 0 ≤ e_n.toInt ∧ e_n.toInt ≤ 10) : Met l yX6_remove (wsG yX6_remove cX6_remove 3 none) ({ frames := 1, cells := 0, slots := 0, locals := 60 }) (va_Pc [.ref a_t, .int p_r] (g5_P G [(a_t, (oc6 10 4 a_n e_n)), (a_n, (arI G 40 f_n))] sz)) (va_Qv (fun (u : va_W) => ((p_r.toInt < 0 ∨ e_n.toInt ≤ p_r.toInt) ∧ (u = [(a_t, (oc6 10 4 a_n e_n)), (a_n, (arI G 40 f_n))])) ∨ (∃ (o_f : Nat → Int32), (0 ≤ p_r.toInt ∧ p_r.toInt < e_n.toInt) ∧ ((e_n - 1).toInt = e_n.toInt - 1) ∧ (o_f = trem f_n e_n.toInt 4 p_r.toInt) ∧ (u = [(a_t, (oc6 10 4 a_n (e_n - 1))), (a_n, (arI G 40 o_f))]))) (g5_B G (va_A [(a_t, (oc6 10 4 a_n e_n)), (a_n, (arI G 40 f_n))] sz)) (va_A [(a_t, (oc6 10 4 a_n e_n)), (a_n, (arI G 40 f_n))] sz)) 0 0 (va_A [(a_t, (oc6 10 4 a_n e_n)), (a_n, (arI G 40 f_n))] sz) := by
  refine Met.ofW (cc := cX6_remove) (maxL := 3) (ret := none) (by decide +kernel) rfl ?_
  intro p e s m args below meth c s₁ B hml hv
  obtain ⟨rfl, hsz, hP, hK, hD0, hN, hT⟩ := hv
  have hx := B.exec
  have hb := B.bytes
  have hr := B.returns
  have hts : ∀ w ∈ tblG, w.before _ s = true := fun w h => atoms_spec (ws := (wsG yX6_remove cX6_remove 3 none)) B.pre w (List.mem_cons_of_mem _ h)
  have hown : s.vm.findClass RX6 = some m.cls := findClass_of_methodNamed B.named
  have hlocks := B.notSynchronized
  subst hsz
  have hD := hD0.self (sz := s.heap.size)
  generalize hAe : va_A [(a_t, (oc6 10 4 a_n e_n)), (a_n, (arI G 40 f_n))] s.heap.size = A at hD hT ⊢
  have hA : ∀ q : Nat, s.heap.size ≤ q → A q := fun q h => by rw [← hAe]; exact Or.inr h
  have hS : va_S A s.heap s.heap [] := va_S.rf
  replace hP : va_P G.1 vwCl [(a_t, (oc6 10 4 a_n e_n)), (a_n, (arI G 40 f_n))] s.heap := hP
  have hl := lv_entry ([.ref a_t, .int p_r]) (n := 3) (Nat.le_of_ble_eq_true rfl)
  rw [lg_entry_eq]
  generalize (lg_sl ([.ref a_t, .int p_r]) ++ List.replicate (3 - (lg_sl ([.ref a_t, .int p_r])).length) Slot.unset).toArray = ls at hl ⊢
  replace hl : lv_has ls 3 [(0, .ref a_t), (1, .int p_r)] := hl
  refine lv_aload_n hx hb dX6_remove_0 rfl (lv_at hl 0 rfl) ?_
  refine lv_iload_n hx hb dX6_remove_1 rfl (lv_at hl 1 rfl) ?_
  obtain ⟨hPc, hDc, hFc⟩ := g5_sub3 (wc := [(a_t, (oc6 10 4 a_n e_n))]) hP hD hS hA [0] (by decide +kernel) rfl
  refine va_calli (va_runV (As := [.int p_r]) (rest := []) ⟨hx, hb, hml, hown, hts⟩ (t_has_S l G a_t a_n s.heap.size e_n p_r h_e_n) (cwV 1 hts gV_X6_25 rfl rfl rfl hv_X6_has ⟨Nat.le_of_ble_eq_true rfl, Nat.le_of_ble_eq_true rfl⟩) (g5_preV hPc hK hDc hN hT hS hFc (ci := 6) (q0 := 0) rfl rfl) rfl rfl hl.1 rfl (lv_room (Nat.le_of_ble_eq_true rfl)) dX6_remove_2 ⟨Nat.le_of_ble_eq_true rfl, Nat.le_of_ble_eq_true rfl⟩) hS (fun q _ h => hFc q h) hFc (fun r u t H locs ht hvm hw hB hz1 hk1 hS => ?_)
  obtain ⟨hP1, hD1⟩ := hB
  have hP1 := g5_ht ht hP1
  rcases hw with ⟨(i_1 : 0 ≤ p_r.toInt ∧ p_r.toInt < e_n.toInt), rfl, rfl⟩ | ⟨(i_2 : p_r.toInt < 0 ∨ e_n.toInt ≤ p_r.toInt), rfl, rfl⟩
  ·
    have hJ9 := va_join (wr := [(a_n, (arI G 40 f_n))]) hP hD [0] [1] rfl rfl (by decide +kernel) (by decide +kernel) hk1 hFc hP1 hD1
    clear hP hD hPc hDc hFc ht hvm hz1 hk1 hP1 hD1
    obtain ⟨hP, hD⟩ := hJ9
    refine g5_rs [(a_n, (arI G 40 f_n)), (a_t, (oc6 10 4 a_n e_n))] hP hD ?_
    clear hP hD
    intro hP hD
    refine lv_if_ne (tgt := 9) hx hb dX6_remove_5 (by decide +kernel) (fun c_3 => ?_) (fun c_3 => ?_)
    ·
      refine lv_iload_n hx hb dX6_remove_9 rfl (lv_at hl 1 rfl) ?_
      refine lv_iconst (v := 1) hx hb dX6_remove_10 (by decide +kernel) ?_
      refine lv_iadd hx hb dX6_remove_11 ?_
      have t_4 : (p_r + 1).toInt = p_r.toInt + 1 := g5_iadd (a := p_r.toInt) (b := 1) (by rfl) (by decide +kernel) (by omega) (by omega)
      refine lv_aload_n hx hb dX6_remove_12 rfl (lv_at hl 0 rfl) ?_
      refine W.eq (g2 := F0 m 13 ls [.ref a_t, .int (p_r + 1)]) rfl ?_
      refine va_get (D := G.1) (ci := 6) (v := .int 4) (C := RX6) (T := TX6) (N := 4) hx hb hts inG_X6 hown hK hP 1 rfl rfl 1 (by decide +kernel) (hts _ fl_X6_18) (fun _ h9 => h9) rfl dX6_remove_13 ?_
      refine lv_imul hx hb dX6_remove_16 ?_
      have t_5 : ((p_r + 1) * 4).toInt = (p_r + 1).toInt * 4 := g5_imul (a := (p_r + 1).toInt) (b := 4) (by rfl) (by decide +kernel) (by omega) (by omega)
      refine lv_istore_n (lv' := [(2, .int ((p_r + 1) * 4)), (0, .ref a_t), (1, .int p_r)]) hx hb dX6_remove_17 rfl hl (by decide +kernel) rfl ?_
      clear hl
      intro ls hl
      refine lv_aload_n hx hb dX6_remove_18 rfl (lv_at hl 1 rfl) ?_
      refine va_get (D := G.1) (ci := 6) (v := .ref a_n) (C := RX6) (T := TX6) (N := 4) hx hb hts inG_X6 hown hK hP 1 rfl rfl 2 (by decide +kernel) (hts _ fl_X6_21) (fun _ h9 => h9) rfl dX6_remove_19 ?_
      refine W.eq (g2 := F0 m 22 ls [.ref a_n]) rfl ?_
      refine lv_iload_n hx hb dX6_remove_22 rfl (lv_at hl 0 rfl) ?_
      refine lv_aload_n hx hb dX6_remove_23 rfl (lv_at hl 1 rfl) ?_
      refine va_get (D := G.1) (ci := 6) (v := .ref a_n) (C := RX6) (T := TX6) (N := 4) hx hb hts inG_X6 hown hK hP 1 rfl rfl 2 (by decide +kernel) (hts _ fl_X6_21) (fun _ h9 => h9) rfl dX6_remove_24 ?_
      refine lv_iload_n hx hb dX6_remove_27 rfl (lv_at hl 2 rfl) ?_
      refine lv_aload_n hx hb dX6_remove_28 rfl (lv_at hl 1 rfl) ?_
      refine W.eq (g2 := F0 m 29 ls [.ref a_t, .int p_r, .ref a_n, .int ((p_r + 1) * 4), .ref a_n]) rfl ?_
      refine va_get (D := G.1) (ci := 6) (v := .int 4) (C := RX6) (T := TX6) (N := 4) hx hb hts inG_X6 hown hK hP 1 rfl rfl 1 (by decide +kernel) (hts _ fl_X6_18) (fun _ h9 => h9) rfl dX6_remove_29 ?_
      refine lv_imul hx hb dX6_remove_32 ?_
      have t_6 : (p_r * 4).toInt = p_r.toInt * 4 := g5_imul (a := p_r.toInt) (b := 4) (by rfl) (by decide +kernel) (by omega) (by omega)
      refine lv_aload_n hx hb dX6_remove_33 rfl (lv_at hl 1 rfl) ?_
      refine va_get (D := G.1) (ci := 6) (v := .int e_n) (C := RX6) (T := TX6) (N := 4) hx hb hts inG_X6 hown hK hP 1 rfl rfl 3 (by decide +kernel) (hts _ fl_X6_9) (fun _ h9 => h9) rfl dX6_remove_34 ?_
      refine lv_aload_n hx hb dX6_remove_37 rfl (lv_at hl 1 rfl) ?_
      refine W.eq (g2 := F0 m 38 ls [.ref a_t, .int e_n, .int (p_r * 4), .ref a_n, .int ((p_r + 1) * 4), .ref a_n]) rfl ?_
      refine va_get (D := G.1) (ci := 6) (v := .int 4) (C := RX6) (T := TX6) (N := 4) hx hb hts inG_X6 hown hK hP 1 rfl rfl 1 (by decide +kernel) (hts _ fl_X6_18) (fun _ h9 => h9) rfl dX6_remove_38 ?_
      refine lv_imul hx hb dX6_remove_41 ?_
      have t_7 : (e_n * 4).toInt = e_n.toInt * 4 := g5_imul (a := e_n.toInt) (b := 4) (by rfl) (by decide +kernel) (by omega) (by omega)
      refine lv_iload_n hx hb dX6_remove_42 rfl (lv_at hl 0 rfl) ?_
      refine lv_isub hx hb dX6_remove_43 ?_
      have t_8 : ((e_n * 4) - ((p_r + 1) * 4)).toInt = (e_n * 4).toInt - ((p_r + 1) * 4).toInt := g5_isub (a := (e_n * 4).toInt) (b := ((p_r + 1) * 4).toInt) (by rfl) (by rfl) (by omega) (by omega)
      refine va_copyi hx hb (hml.trans hl.1.symm) hown (hts _ ml_X6_37) (hts _ ac_nat) (hts _ ac_st) (hts _ ac_ini) hK hP hD hS 0 0 0 0 rfl rfl rfl rfl rfl (sp := ((p_r + 1) * 4)) (dp := (p_r * 4)) (n := ((e_n * 4) - ((p_r + 1) * 4))) (g_nlt0 (by omega)) (g_nlt0 (by omega)) (g_nlt0 (by omega)) (by have z9 := g5_clamp ((p_r + 1) * 4); have z10 := g5_clamp ((e_n * 4) - ((p_r + 1) * 4)); omega) (by have z11 := g5_clamp (p_r * 4); have z12 := g5_clamp ((e_n * 4) - ((p_r + 1) * 4)); omega) (fun _ _ => rfl) (Nat.le_of_ble_eq_true rfl) (by decide +kernel) dX6_remove_44 ?_
      clear hP hD hS
      intro H locs hP hD hS
      refine g5_rs [(a_n, (arI G 40 (va_cpy f_n f_n ((p_r + 1) * 4).toNatClampNeg (p_r * 4).toNatClampNeg ((e_n * 4) - ((p_r + 1) * 4)).toNatClampNeg))), (a_t, (oc6 10 4 a_n e_n))] hP hD ?_
      clear hP hD
      intro hP hD
      refine W.eq (g2 := F0 m 47 ls []) rfl ?_
      refine lv_aload_n hx hb dX6_remove_47 rfl (lv_at hl 1 rfl) ?_
      refine lv_dup hx hb dX6_remove_48 rfl ?_
      refine va_get (D := G.1) (ci := 6) (v := .int e_n) (C := RX6) (T := TX6) (N := 4) hx hb hts inG_X6 hown hK hP 1 rfl rfl 3 (by decide +kernel) (hts _ fl_X6_9) (fun _ h9 => h9) rfl dX6_remove_49 ?_
      refine lv_iconst (v := 1) hx hb dX6_remove_52 (by decide +kernel) ?_
      refine lv_isub hx hb dX6_remove_53 ?_
      have t_13 : (e_n - 1).toInt = e_n.toInt - 1 := g5_isub (a := e_n.toInt) (b := 1) (by rfl) (by decide +kernel) (by omega) (by omega)
      refine W.eq (g2 := F0 m 54 ls [.int (e_n - 1), .ref a_t]) rfl ?_
      refine va_put (D := G.1) (ci := 6) (v := .int (e_n - 1)) (ty := .int) (C := RX6) (T := TX6) (N := 4) hx hb hts inG_X6 tyX6 tyX6_ok nmX6 hown hK hP hD hS 1 rfl rfl 3 (by decide +kernel) (hts _ fl_X6_9) (fun _ h9 => h9) rfl (by decide +kernel) rfl rfl (Nat.le_of_ble_eq_true rfl) dX6_remove_54 ?_
      clear hP hD hS
      intro H locs hP hD hS
      refine g5_rs [(a_n, (arI G 40 (va_cpy f_n f_n ((p_r + 1) * 4).toNatClampNeg (p_r * 4).toNatClampNeg ((e_n * 4) - ((p_r + 1) * 4)).toNatClampNeg))), (a_t, (oc6 10 4 a_n (e_n - 1)))] hP hD ?_
      clear hP hD
      intro hP hD
      exact W.vret hx hb hr (fun t ht hW => ⟨⟨[(a_t, (oc6 10 4 a_n (e_n - 1))), (a_n, (arI G 40 (va_cpy f_n f_n ((p_r + 1) * 4).toNatClampNeg (p_r * 4).toNatClampNeg ((e_n * 4) - ((p_r + 1) * 4)).toNatClampNeg)))], rfl, Or.inr (⟨(va_cpy f_n f_n ((p_r + 1) * 4).toNatClampNeg (p_r * 4).toNatClampNeg ((e_n * 4) - ((p_r + 1) * 4)).toNatClampNeg), by omega, by omega, qt_rem (by omega) (by decide +kernel) (by omega) (by omega) (by omega) (by omega) (by omega) (by omega), rfl⟩), by rw [ht]; exact hP.sub [1, 0] rfl, hD.sub [1, 0] (by decide +kernel) rfl⟩, hS.F ht⟩) hS.2.2 dX6_remove_57
    ·
      exact absurd c_3 (by decide +kernel)
  ·
    have hJ9 := va_join (wr := [(a_n, (arI G 40 f_n))]) hP hD [0] [1] rfl rfl (by decide +kernel) (by decide +kernel) hk1 hFc hP1 hD1
    clear hP hD hPc hDc hFc ht hvm hz1 hk1 hP1 hD1
    obtain ⟨hP, hD⟩ := hJ9
    refine g5_rs [(a_n, (arI G 40 f_n)), (a_t, (oc6 10 4 a_n e_n))] hP hD ?_
    clear hP hD
    intro hP hD
    refine lv_if_ne (tgt := 9) hx hb dX6_remove_5 (by decide +kernel) (fun c_14 => ?_) (fun c_14 => ?_)
    ·
      exact absurd c_14 (by decide +kernel)
    ·
      exact W.vret hx hb hr (fun t ht hW => ⟨⟨[(a_t, (oc6 10 4 a_n e_n)), (a_n, (arI G 40 f_n))], rfl, Or.inl (⟨by omega, rfl⟩), by rw [ht]; exact hP.sub [1, 0] rfl, hD.sub [1, 0] (by decide +kernel) rfl⟩, hS.F ht⟩) hS.2.2 dX6_remove_8
set_option maxHeartbeats 4000000 in
set_option maxRecDepth 100000 in
theorem t_copyFrom_S (l : Launch) (G : g5_G) (a_t a_n a_o a_on : Nat) (sz : Nat) (e_n : Int32) (e_o : Int32) (f_n : Nat → Int32) (f_o : Nat → Int32) (h_e_n : 0 ≤ e_n.toInt ∧ e_n.toInt ≤ 10) (h_e_o : 0 ≤ e_o.toInt ∧ e_o.toInt ≤ 10) : Met l yX6_copyFrom (wsG yX6_copyFrom cX6_copyFrom 2 none) ({ frames := 1, cells := 0, slots := 0, locals := 60 }) (va_Pc [.ref a_t, .ref a_o] (g5_P G [(a_t, (oc6 10 4 a_n e_n)), (a_n, (arI G 40 f_n)), (a_o, (oc6 10 4 a_on e_o)), (a_on, (arI G 40 f_o))] sz)) (va_Qv (fun (u : va_W) => ((u = [(a_t, (oc6 10 4 a_n e_o)), (a_n, (arI G 40 (va_cpy f_o f_n 0 0 40))), (a_o, (oc6 10 4 a_on e_o)), (a_on, (arI G 40 f_o))]))) (g5_B G (va_A [(a_t, (oc6 10 4 a_n e_n)), (a_n, (arI G 40 f_n)), (a_o, (oc6 10 4 a_on e_o)), (a_on, (arI G 40 f_o))] sz)) (va_A [(a_t, (oc6 10 4 a_n e_n)), (a_n, (arI G 40 f_n)), (a_o, (oc6 10 4 a_on e_o)), (a_on, (arI G 40 f_o))] sz)) 0 0 (va_A [(a_t, (oc6 10 4 a_n e_n)), (a_n, (arI G 40 f_n)), (a_o, (oc6 10 4 a_on e_o)), (a_on, (arI G 40 f_o))] sz) := by
  refine Met.ofW (cc := cX6_copyFrom) (maxL := 2) (ret := none) (by decide +kernel) rfl ?_
  intro p e s m args below meth c s₁ B hml hv
  obtain ⟨rfl, hsz, hP, hK, hD0, hN, hT⟩ := hv
  have hx := B.exec
  have hb := B.bytes
  have hr := B.returns
  have hts : ∀ w ∈ tblG, w.before _ s = true := fun w h => atoms_spec (ws := (wsG yX6_copyFrom cX6_copyFrom 2 none)) B.pre w (List.mem_cons_of_mem _ h)
  have hown : s.vm.findClass RX6 = some m.cls := findClass_of_methodNamed B.named
  have hlocks := B.notSynchronized
  subst hsz
  have hD := hD0.self (sz := s.heap.size)
  generalize hAe : va_A [(a_t, (oc6 10 4 a_n e_n)), (a_n, (arI G 40 f_n)), (a_o, (oc6 10 4 a_on e_o)), (a_on, (arI G 40 f_o))] s.heap.size = A at hD hT ⊢
  have hA : ∀ q : Nat, s.heap.size ≤ q → A q := fun q h => by rw [← hAe]; exact Or.inr h
  have hS : va_S A s.heap s.heap [] := va_S.rf
  replace hP : va_P G.1 vwCl [(a_t, (oc6 10 4 a_n e_n)), (a_n, (arI G 40 f_n)), (a_o, (oc6 10 4 a_on e_o)), (a_on, (arI G 40 f_o))] s.heap := hP
  have hl := lv_entry ([.ref a_t, .ref a_o]) (n := 2) (Nat.le_of_ble_eq_true rfl)
  rw [lg_entry_eq]
  generalize (lg_sl ([.ref a_t, .ref a_o]) ++ List.replicate (2 - (lg_sl ([.ref a_t, .ref a_o])).length) Slot.unset).toArray = ls at hl ⊢
  replace hl : lv_has ls 2 [(0, .ref a_t), (1, .ref a_o)] := hl
  refine lv_aload_n hx hb dX6_copyFrom_0 rfl (lv_at hl 1 rfl) ?_
  refine va_get (D := G.1) (ci := 6) (v := .ref a_on) (C := RX6) (T := TX6) (N := 4) hx hb hts inG_X6 hown hK hP 2 rfl rfl 2 (by decide +kernel) (hts _ fl_X6_21) (fun _ h9 => h9) rfl dX6_copyFrom_1 ?_
  refine va_alen hx hb hK hP 3 0 rfl rfl (v := 40) (by show Int32.ofNat 40 = 40; decide) dX6_copyFrom_4 ?_
  refine lv_aload_n hx hb dX6_copyFrom_5 rfl (lv_at hl 0 rfl) ?_
  refine W.eq (g2 := F0 m 6 ls [.ref a_t, .int 40]) rfl ?_
  refine va_get (D := G.1) (ci := 6) (v := .ref a_n) (C := RX6) (T := TX6) (N := 4) hx hb hts inG_X6 hown hK hP 0 rfl rfl 2 (by decide +kernel) (hts _ fl_X6_21) (fun _ h9 => h9) rfl dX6_copyFrom_6 ?_
  refine va_alen hx hb hK hP 1 0 rfl rfl (v := 40) (by show Int32.ofNat 40 = 40; decide) dX6_copyFrom_9 ?_
  refine lv_icmp_ne (tgt := 39) hx hb dX6_copyFrom_10 (by decide +kernel) (fun c_1 => ?_) (fun c_1 => ?_)
  ·
    exact absurd c_1 (by decide +kernel)
  ·
    refine lv_aload_n hx hb dX6_copyFrom_13 rfl (lv_at hl 1 rfl) ?_
    refine va_get (D := G.1) (ci := 6) (v := .ref a_on) (C := RX6) (T := TX6) (N := 4) hx hb hts inG_X6 hown hK hP 2 rfl rfl 2 (by decide +kernel) (hts _ fl_X6_21) (fun _ h9 => h9) rfl dX6_copyFrom_14 ?_
    refine lv_iconst (v := 0) hx hb dX6_copyFrom_17 (by decide +kernel) ?_
    refine lv_aload_n hx hb dX6_copyFrom_18 rfl (lv_at hl 0 rfl) ?_
    refine W.eq (g2 := F0 m 19 ls [.ref a_t, .int 0, .ref a_on]) rfl ?_
    refine va_get (D := G.1) (ci := 6) (v := .ref a_n) (C := RX6) (T := TX6) (N := 4) hx hb hts inG_X6 hown hK hP 0 rfl rfl 2 (by decide +kernel) (hts _ fl_X6_21) (fun _ h9 => h9) rfl dX6_copyFrom_19 ?_
    refine lv_iconst (v := 0) hx hb dX6_copyFrom_22 (by decide +kernel) ?_
    refine lv_aload_n hx hb dX6_copyFrom_23 rfl (lv_at hl 0 rfl) ?_
    refine va_get (D := G.1) (ci := 6) (v := .ref a_n) (C := RX6) (T := TX6) (N := 4) hx hb hts inG_X6 hown hK hP 0 rfl rfl 2 (by decide +kernel) (hts _ fl_X6_21) (fun _ h9 => h9) rfl dX6_copyFrom_24 ?_
    refine va_alen hx hb hK hP 1 0 rfl rfl (v := 40) (by show Int32.ofNat 40 = 40; decide) dX6_copyFrom_27 ?_
    refine W.eq (g2 := F0 m 28 ls [.int 40, .int 0, .ref a_n, .int 0, .ref a_on]) rfl ?_
    refine va_copyi hx hb (hml.trans hl.1.symm) hown (hts _ ml_X6_37) (hts _ ac_nat) (hts _ ac_st) (hts _ ac_ini) hK hP hD hS 3 1 0 0 rfl rfl rfl rfl rfl (sp := 0) (dp := 0) (n := 40) (by decide +kernel) (by decide +kernel) (by decide +kernel) (by decide +kernel) (by decide +kernel) (fun _ _ => rfl) (Nat.le_of_ble_eq_true rfl) (by decide +kernel) dX6_copyFrom_28 ?_
    clear hP hD hS
    intro H locs hP hD hS
    refine g5_rs [(a_t, (oc6 10 4 a_n e_n)), (a_n, (arI G 40 (va_cpy f_o f_n 0 0 40))), (a_o, (oc6 10 4 a_on e_o)), (a_on, (arI G 40 f_o))] hP hD ?_
    clear hP hD
    intro hP hD
    refine lv_aload_n hx hb dX6_copyFrom_31 rfl (lv_at hl 0 rfl) ?_
    refine lv_aload_n hx hb dX6_copyFrom_32 rfl (lv_at hl 1 rfl) ?_
    refine va_get (D := G.1) (ci := 6) (v := .int e_o) (C := RX6) (T := TX6) (N := 4) hx hb hts inG_X6 hown hK hP 2 rfl rfl 3 (by decide +kernel) (hts _ fl_X6_9) (fun _ h9 => h9) rfl dX6_copyFrom_33 ?_
    refine va_put (D := G.1) (ci := 6) (v := .int e_o) (ty := .int) (C := RX6) (T := TX6) (N := 4) hx hb hts inG_X6 tyX6 tyX6_ok nmX6 hown hK hP hD hS 0 rfl rfl 3 (by decide +kernel) (hts _ fl_X6_9) (fun _ h9 => h9) rfl (by decide +kernel) rfl rfl (Nat.le_of_ble_eq_true rfl) dX6_copyFrom_36 ?_
    clear hP hD hS
    intro H locs hP hD hS
    refine g5_rs [(a_t, (oc6 10 4 a_n e_o)), (a_n, (arI G 40 (va_cpy f_o f_n 0 0 40))), (a_o, (oc6 10 4 a_on e_o)), (a_on, (arI G 40 f_o))] hP hD ?_
    clear hP hD
    intro hP hD
    refine W.eq (g2 := F0 m 39 ls []) rfl ?_
    exact W.vret hx hb hr (fun t ht hW => ⟨⟨[(a_t, (oc6 10 4 a_n e_o)), (a_n, (arI G 40 (va_cpy f_o f_n 0 0 40))), (a_o, (oc6 10 4 a_on e_o)), (a_on, (arI G 40 f_o))], rfl, rfl, by rw [ht]; exact hP.sub [0, 1, 2, 3] rfl, hD.sub [0, 1, 2, 3] (by decide +kernel) rfl⟩, hS.F ht⟩) hS.2.2 dX6_copyFrom_39
set_option maxHeartbeats 4000000 in
set_option maxRecDepth 100000 in
theorem t_copyFrom_P (l : Launch) (G : g5_G) (a_t a_n a_o a_on : Nat) (sz : Nat) (e_n : Int32) (e_o : Int32) (f_n : Nat → Int32) (f_o : Nat → Int32) (h_e_n : 0 ≤ e_n.toInt ∧ e_n.toInt ≤ 8) (h_e_o : 0 ≤ e_o.toInt ∧ e_o.toInt ≤ 8) : Met l yX6_copyFrom (wsG yX6_copyFrom cX6_copyFrom 2 none) ({ frames := 1, cells := 0, slots := 0, locals := 60 }) (va_Pc [.ref a_t, .ref a_o] (g5_P G [(a_t, (oc6 8 5 a_n e_n)), (a_n, (arI G 40 f_n)), (a_o, (oc6 8 5 a_on e_o)), (a_on, (arI G 40 f_o))] sz)) (va_Qv (fun (u : va_W) => ((u = [(a_t, (oc6 8 5 a_n e_o)), (a_n, (arI G 40 (va_cpy f_o f_n 0 0 40))), (a_o, (oc6 8 5 a_on e_o)), (a_on, (arI G 40 f_o))]))) (g5_B G (va_A [(a_t, (oc6 8 5 a_n e_n)), (a_n, (arI G 40 f_n)), (a_o, (oc6 8 5 a_on e_o)), (a_on, (arI G 40 f_o))] sz)) (va_A [(a_t, (oc6 8 5 a_n e_n)), (a_n, (arI G 40 f_n)), (a_o, (oc6 8 5 a_on e_o)), (a_on, (arI G 40 f_o))] sz)) 0 0 (va_A [(a_t, (oc6 8 5 a_n e_n)), (a_n, (arI G 40 f_n)), (a_o, (oc6 8 5 a_on e_o)), (a_on, (arI G 40 f_o))] sz) := by
  refine Met.ofW (cc := cX6_copyFrom) (maxL := 2) (ret := none) (by decide +kernel) rfl ?_
  intro p e s m args below meth c s₁ B hml hv
  obtain ⟨rfl, hsz, hP, hK, hD0, hN, hT⟩ := hv
  have hx := B.exec
  have hb := B.bytes
  have hr := B.returns
  have hts : ∀ w ∈ tblG, w.before _ s = true := fun w h => atoms_spec (ws := (wsG yX6_copyFrom cX6_copyFrom 2 none)) B.pre w (List.mem_cons_of_mem _ h)
  have hown : s.vm.findClass RX6 = some m.cls := findClass_of_methodNamed B.named
  have hlocks := B.notSynchronized
  subst hsz
  have hD := hD0.self (sz := s.heap.size)
  generalize hAe : va_A [(a_t, (oc6 8 5 a_n e_n)), (a_n, (arI G 40 f_n)), (a_o, (oc6 8 5 a_on e_o)), (a_on, (arI G 40 f_o))] s.heap.size = A at hD hT ⊢
  have hA : ∀ q : Nat, s.heap.size ≤ q → A q := fun q h => by rw [← hAe]; exact Or.inr h
  have hS : va_S A s.heap s.heap [] := va_S.rf
  replace hP : va_P G.1 vwCl [(a_t, (oc6 8 5 a_n e_n)), (a_n, (arI G 40 f_n)), (a_o, (oc6 8 5 a_on e_o)), (a_on, (arI G 40 f_o))] s.heap := hP
  have hl := lv_entry ([.ref a_t, .ref a_o]) (n := 2) (Nat.le_of_ble_eq_true rfl)
  rw [lg_entry_eq]
  generalize (lg_sl ([.ref a_t, .ref a_o]) ++ List.replicate (2 - (lg_sl ([.ref a_t, .ref a_o])).length) Slot.unset).toArray = ls at hl ⊢
  replace hl : lv_has ls 2 [(0, .ref a_t), (1, .ref a_o)] := hl
  refine lv_aload_n hx hb dX6_copyFrom_0 rfl (lv_at hl 1 rfl) ?_
  refine va_get (D := G.1) (ci := 6) (v := .ref a_on) (C := RX6) (T := TX6) (N := 4) hx hb hts inG_X6 hown hK hP 2 rfl rfl 2 (by decide +kernel) (hts _ fl_X6_21) (fun _ h9 => h9) rfl dX6_copyFrom_1 ?_
  refine va_alen hx hb hK hP 3 0 rfl rfl (v := 40) (by show Int32.ofNat 40 = 40; decide) dX6_copyFrom_4 ?_
  refine lv_aload_n hx hb dX6_copyFrom_5 rfl (lv_at hl 0 rfl) ?_
  refine W.eq (g2 := F0 m 6 ls [.ref a_t, .int 40]) rfl ?_
  refine va_get (D := G.1) (ci := 6) (v := .ref a_n) (C := RX6) (T := TX6) (N := 4) hx hb hts inG_X6 hown hK hP 0 rfl rfl 2 (by decide +kernel) (hts _ fl_X6_21) (fun _ h9 => h9) rfl dX6_copyFrom_6 ?_
  refine va_alen hx hb hK hP 1 0 rfl rfl (v := 40) (by show Int32.ofNat 40 = 40; decide) dX6_copyFrom_9 ?_
  refine lv_icmp_ne (tgt := 39) hx hb dX6_copyFrom_10 (by decide +kernel) (fun c_1 => ?_) (fun c_1 => ?_)
  ·
    exact absurd c_1 (by decide +kernel)
  ·
    refine lv_aload_n hx hb dX6_copyFrom_13 rfl (lv_at hl 1 rfl) ?_
    refine va_get (D := G.1) (ci := 6) (v := .ref a_on) (C := RX6) (T := TX6) (N := 4) hx hb hts inG_X6 hown hK hP 2 rfl rfl 2 (by decide +kernel) (hts _ fl_X6_21) (fun _ h9 => h9) rfl dX6_copyFrom_14 ?_
    refine lv_iconst (v := 0) hx hb dX6_copyFrom_17 (by decide +kernel) ?_
    refine lv_aload_n hx hb dX6_copyFrom_18 rfl (lv_at hl 0 rfl) ?_
    refine W.eq (g2 := F0 m 19 ls [.ref a_t, .int 0, .ref a_on]) rfl ?_
    refine va_get (D := G.1) (ci := 6) (v := .ref a_n) (C := RX6) (T := TX6) (N := 4) hx hb hts inG_X6 hown hK hP 0 rfl rfl 2 (by decide +kernel) (hts _ fl_X6_21) (fun _ h9 => h9) rfl dX6_copyFrom_19 ?_
    refine lv_iconst (v := 0) hx hb dX6_copyFrom_22 (by decide +kernel) ?_
    refine lv_aload_n hx hb dX6_copyFrom_23 rfl (lv_at hl 0 rfl) ?_
    refine va_get (D := G.1) (ci := 6) (v := .ref a_n) (C := RX6) (T := TX6) (N := 4) hx hb hts inG_X6 hown hK hP 0 rfl rfl 2 (by decide +kernel) (hts _ fl_X6_21) (fun _ h9 => h9) rfl dX6_copyFrom_24 ?_
    refine va_alen hx hb hK hP 1 0 rfl rfl (v := 40) (by show Int32.ofNat 40 = 40; decide) dX6_copyFrom_27 ?_
    refine W.eq (g2 := F0 m 28 ls [.int 40, .int 0, .ref a_n, .int 0, .ref a_on]) rfl ?_
    refine va_copyi hx hb (hml.trans hl.1.symm) hown (hts _ ml_X6_37) (hts _ ac_nat) (hts _ ac_st) (hts _ ac_ini) hK hP hD hS 3 1 0 0 rfl rfl rfl rfl rfl (sp := 0) (dp := 0) (n := 40) (by decide +kernel) (by decide +kernel) (by decide +kernel) (by decide +kernel) (by decide +kernel) (fun _ _ => rfl) (Nat.le_of_ble_eq_true rfl) (by decide +kernel) dX6_copyFrom_28 ?_
    clear hP hD hS
    intro H locs hP hD hS
    refine g5_rs [(a_t, (oc6 8 5 a_n e_n)), (a_n, (arI G 40 (va_cpy f_o f_n 0 0 40))), (a_o, (oc6 8 5 a_on e_o)), (a_on, (arI G 40 f_o))] hP hD ?_
    clear hP hD
    intro hP hD
    refine lv_aload_n hx hb dX6_copyFrom_31 rfl (lv_at hl 0 rfl) ?_
    refine lv_aload_n hx hb dX6_copyFrom_32 rfl (lv_at hl 1 rfl) ?_
    refine va_get (D := G.1) (ci := 6) (v := .int e_o) (C := RX6) (T := TX6) (N := 4) hx hb hts inG_X6 hown hK hP 2 rfl rfl 3 (by decide +kernel) (hts _ fl_X6_9) (fun _ h9 => h9) rfl dX6_copyFrom_33 ?_
    refine va_put (D := G.1) (ci := 6) (v := .int e_o) (ty := .int) (C := RX6) (T := TX6) (N := 4) hx hb hts inG_X6 tyX6 tyX6_ok nmX6 hown hK hP hD hS 0 rfl rfl 3 (by decide +kernel) (hts _ fl_X6_9) (fun _ h9 => h9) rfl (by decide +kernel) rfl rfl (Nat.le_of_ble_eq_true rfl) dX6_copyFrom_36 ?_
    clear hP hD hS
    intro H locs hP hD hS
    refine g5_rs [(a_t, (oc6 8 5 a_n e_o)), (a_n, (arI G 40 (va_cpy f_o f_n 0 0 40))), (a_o, (oc6 8 5 a_on e_o)), (a_on, (arI G 40 f_o))] hP hD ?_
    clear hP hD
    intro hP hD
    refine W.eq (g2 := F0 m 39 ls []) rfl ?_
    exact W.vret hx hb hr (fun t ht hW => ⟨⟨[(a_t, (oc6 8 5 a_n e_o)), (a_n, (arI G 40 (va_cpy f_o f_n 0 0 40))), (a_o, (oc6 8 5 a_on e_o)), (a_on, (arI G 40 f_o))], rfl, rfl, by rw [ht]; exact hP.sub [0, 1, 2, 3] rfl, hD.sub [0, 1, 2, 3] (by decide +kernel) rfl⟩, hS.F ht⟩) hS.2.2 dX6_copyFrom_39
set_option maxHeartbeats 4000000 in
set_option maxRecDepth 100000 in
theorem t_copyFrom_W (l : Launch) (G : g5_G) (a_t a_n a_o a_on : Nat) (sz : Nat) (e_n : Int32) (e_o : Int32) (f_n : Nat → Int32) (f_o : Nat → Int32) (h_e_n : 0 ≤ e_n.toInt ∧ e_n.toInt ≤ 6) (h_e_o : 0 ≤ e_o.toInt ∧ e_o.toInt ≤ 6) : Met l yX6_copyFrom (wsG yX6_copyFrom cX6_copyFrom 2 none) ({ frames := 1, cells := 0, slots := 0, locals := 60 }) (va_Pc [.ref a_t, .ref a_o] (g5_P G [(a_t, (oc6 6 6 a_n e_n)), (a_n, (arI G 36 f_n)), (a_o, (oc6 6 6 a_on e_o)), (a_on, (arI G 36 f_o))] sz)) (va_Qv (fun (u : va_W) => ((u = [(a_t, (oc6 6 6 a_n e_o)), (a_n, (arI G 36 (va_cpy f_o f_n 0 0 36))), (a_o, (oc6 6 6 a_on e_o)), (a_on, (arI G 36 f_o))]))) (g5_B G (va_A [(a_t, (oc6 6 6 a_n e_n)), (a_n, (arI G 36 f_n)), (a_o, (oc6 6 6 a_on e_o)), (a_on, (arI G 36 f_o))] sz)) (va_A [(a_t, (oc6 6 6 a_n e_n)), (a_n, (arI G 36 f_n)), (a_o, (oc6 6 6 a_on e_o)), (a_on, (arI G 36 f_o))] sz)) 0 0 (va_A [(a_t, (oc6 6 6 a_n e_n)), (a_n, (arI G 36 f_n)), (a_o, (oc6 6 6 a_on e_o)), (a_on, (arI G 36 f_o))] sz) := by
  refine Met.ofW (cc := cX6_copyFrom) (maxL := 2) (ret := none) (by decide +kernel) rfl ?_
  intro p e s m args below meth c s₁ B hml hv
  obtain ⟨rfl, hsz, hP, hK, hD0, hN, hT⟩ := hv
  have hx := B.exec
  have hb := B.bytes
  have hr := B.returns
  have hts : ∀ w ∈ tblG, w.before _ s = true := fun w h => atoms_spec (ws := (wsG yX6_copyFrom cX6_copyFrom 2 none)) B.pre w (List.mem_cons_of_mem _ h)
  have hown : s.vm.findClass RX6 = some m.cls := findClass_of_methodNamed B.named
  have hlocks := B.notSynchronized
  subst hsz
  have hD := hD0.self (sz := s.heap.size)
  generalize hAe : va_A [(a_t, (oc6 6 6 a_n e_n)), (a_n, (arI G 36 f_n)), (a_o, (oc6 6 6 a_on e_o)), (a_on, (arI G 36 f_o))] s.heap.size = A at hD hT ⊢
  have hA : ∀ q : Nat, s.heap.size ≤ q → A q := fun q h => by rw [← hAe]; exact Or.inr h
  have hS : va_S A s.heap s.heap [] := va_S.rf
  replace hP : va_P G.1 vwCl [(a_t, (oc6 6 6 a_n e_n)), (a_n, (arI G 36 f_n)), (a_o, (oc6 6 6 a_on e_o)), (a_on, (arI G 36 f_o))] s.heap := hP
  have hl := lv_entry ([.ref a_t, .ref a_o]) (n := 2) (Nat.le_of_ble_eq_true rfl)
  rw [lg_entry_eq]
  generalize (lg_sl ([.ref a_t, .ref a_o]) ++ List.replicate (2 - (lg_sl ([.ref a_t, .ref a_o])).length) Slot.unset).toArray = ls at hl ⊢
  replace hl : lv_has ls 2 [(0, .ref a_t), (1, .ref a_o)] := hl
  refine lv_aload_n hx hb dX6_copyFrom_0 rfl (lv_at hl 1 rfl) ?_
  refine va_get (D := G.1) (ci := 6) (v := .ref a_on) (C := RX6) (T := TX6) (N := 4) hx hb hts inG_X6 hown hK hP 2 rfl rfl 2 (by decide +kernel) (hts _ fl_X6_21) (fun _ h9 => h9) rfl dX6_copyFrom_1 ?_
  refine va_alen hx hb hK hP 3 0 rfl rfl (v := 36) (by show Int32.ofNat 36 = 36; decide) dX6_copyFrom_4 ?_
  refine lv_aload_n hx hb dX6_copyFrom_5 rfl (lv_at hl 0 rfl) ?_
  refine W.eq (g2 := F0 m 6 ls [.ref a_t, .int 36]) rfl ?_
  refine va_get (D := G.1) (ci := 6) (v := .ref a_n) (C := RX6) (T := TX6) (N := 4) hx hb hts inG_X6 hown hK hP 0 rfl rfl 2 (by decide +kernel) (hts _ fl_X6_21) (fun _ h9 => h9) rfl dX6_copyFrom_6 ?_
  refine va_alen hx hb hK hP 1 0 rfl rfl (v := 36) (by show Int32.ofNat 36 = 36; decide) dX6_copyFrom_9 ?_
  refine lv_icmp_ne (tgt := 39) hx hb dX6_copyFrom_10 (by decide +kernel) (fun c_1 => ?_) (fun c_1 => ?_)
  ·
    exact absurd c_1 (by decide +kernel)
  ·
    refine lv_aload_n hx hb dX6_copyFrom_13 rfl (lv_at hl 1 rfl) ?_
    refine va_get (D := G.1) (ci := 6) (v := .ref a_on) (C := RX6) (T := TX6) (N := 4) hx hb hts inG_X6 hown hK hP 2 rfl rfl 2 (by decide +kernel) (hts _ fl_X6_21) (fun _ h9 => h9) rfl dX6_copyFrom_14 ?_
    refine lv_iconst (v := 0) hx hb dX6_copyFrom_17 (by decide +kernel) ?_
    refine lv_aload_n hx hb dX6_copyFrom_18 rfl (lv_at hl 0 rfl) ?_
    refine W.eq (g2 := F0 m 19 ls [.ref a_t, .int 0, .ref a_on]) rfl ?_
    refine va_get (D := G.1) (ci := 6) (v := .ref a_n) (C := RX6) (T := TX6) (N := 4) hx hb hts inG_X6 hown hK hP 0 rfl rfl 2 (by decide +kernel) (hts _ fl_X6_21) (fun _ h9 => h9) rfl dX6_copyFrom_19 ?_
    refine lv_iconst (v := 0) hx hb dX6_copyFrom_22 (by decide +kernel) ?_
    refine lv_aload_n hx hb dX6_copyFrom_23 rfl (lv_at hl 0 rfl) ?_
    refine va_get (D := G.1) (ci := 6) (v := .ref a_n) (C := RX6) (T := TX6) (N := 4) hx hb hts inG_X6 hown hK hP 0 rfl rfl 2 (by decide +kernel) (hts _ fl_X6_21) (fun _ h9 => h9) rfl dX6_copyFrom_24 ?_
    refine va_alen hx hb hK hP 1 0 rfl rfl (v := 36) (by show Int32.ofNat 36 = 36; decide) dX6_copyFrom_27 ?_
    refine W.eq (g2 := F0 m 28 ls [.int 36, .int 0, .ref a_n, .int 0, .ref a_on]) rfl ?_
    refine va_copyi hx hb (hml.trans hl.1.symm) hown (hts _ ml_X6_37) (hts _ ac_nat) (hts _ ac_st) (hts _ ac_ini) hK hP hD hS 3 1 0 0 rfl rfl rfl rfl rfl (sp := 0) (dp := 0) (n := 36) (by decide +kernel) (by decide +kernel) (by decide +kernel) (by decide +kernel) (by decide +kernel) (fun _ _ => rfl) (Nat.le_of_ble_eq_true rfl) (by decide +kernel) dX6_copyFrom_28 ?_
    clear hP hD hS
    intro H locs hP hD hS
    refine g5_rs [(a_t, (oc6 6 6 a_n e_n)), (a_n, (arI G 36 (va_cpy f_o f_n 0 0 36))), (a_o, (oc6 6 6 a_on e_o)), (a_on, (arI G 36 f_o))] hP hD ?_
    clear hP hD
    intro hP hD
    refine lv_aload_n hx hb dX6_copyFrom_31 rfl (lv_at hl 0 rfl) ?_
    refine lv_aload_n hx hb dX6_copyFrom_32 rfl (lv_at hl 1 rfl) ?_
    refine va_get (D := G.1) (ci := 6) (v := .int e_o) (C := RX6) (T := TX6) (N := 4) hx hb hts inG_X6 hown hK hP 2 rfl rfl 3 (by decide +kernel) (hts _ fl_X6_9) (fun _ h9 => h9) rfl dX6_copyFrom_33 ?_
    refine va_put (D := G.1) (ci := 6) (v := .int e_o) (ty := .int) (C := RX6) (T := TX6) (N := 4) hx hb hts inG_X6 tyX6 tyX6_ok nmX6 hown hK hP hD hS 0 rfl rfl 3 (by decide +kernel) (hts _ fl_X6_9) (fun _ h9 => h9) rfl (by decide +kernel) rfl rfl (Nat.le_of_ble_eq_true rfl) dX6_copyFrom_36 ?_
    clear hP hD hS
    intro H locs hP hD hS
    refine g5_rs [(a_t, (oc6 6 6 a_n e_o)), (a_n, (arI G 36 (va_cpy f_o f_n 0 0 36))), (a_o, (oc6 6 6 a_on e_o)), (a_on, (arI G 36 f_o))] hP hD ?_
    clear hP hD
    intro hP hD
    refine W.eq (g2 := F0 m 39 ls []) rfl ?_
    exact W.vret hx hb hr (fun t ht hW => ⟨⟨[(a_t, (oc6 6 6 a_n e_o)), (a_n, (arI G 36 (va_cpy f_o f_n 0 0 36))), (a_o, (oc6 6 6 a_on e_o)), (a_on, (arI G 36 f_o))], rfl, rfl, by rw [ht]; exact hP.sub [0, 1, 2, 3] rfl, hD.sub [0, 1, 2, 3] (by decide +kernel) rfl⟩, hS.F ht⟩) hS.2.2 dX6_copyFrom_39
theorem dgX11_isOn_0 : ∀ r ∈ ([(0, (.lload_n 0, 1)), (1, (.iload_n 2, 1)), (2, (.lushr, 1)), (3, (.lconst 1, 1)), (4, (.land, 1)), (5, (.lconst 0, 1)), (6, (.lcmp, 1)), (7, (.ifCond .eq 7, 3)), (10, (.iconst 1, 1)), (11, (.goto 4, 3)), (14, (.iconst 0, 1)), (15, (.ireturn, 1))] : List (Nat × (Instr × Nat))), decode cX11_isOn r.1 = .ok r.2 := by decide +kernel
theorem dX11_isOn_0 : decode cX11_isOn 0 = .ok (.lload_n 0, 1) := dgX11_isOn_0 (0, (.lload_n 0, 1)) (List.mem_of_getElem? (i := 0) rfl)
theorem dX11_isOn_1 : decode cX11_isOn 1 = .ok (.iload_n 2, 1) := dgX11_isOn_0 (1, (.iload_n 2, 1)) (List.mem_of_getElem? (i := 1) rfl)
theorem dX11_isOn_2 : decode cX11_isOn 2 = .ok (.lushr, 1) := dgX11_isOn_0 (2, (.lushr, 1)) (List.mem_of_getElem? (i := 2) rfl)
theorem dX11_isOn_3 : decode cX11_isOn 3 = .ok (.lconst 1, 1) := dgX11_isOn_0 (3, (.lconst 1, 1)) (List.mem_of_getElem? (i := 3) rfl)
theorem dX11_isOn_4 : decode cX11_isOn 4 = .ok (.land, 1) := dgX11_isOn_0 (4, (.land, 1)) (List.mem_of_getElem? (i := 4) rfl)
theorem dX11_isOn_5 : decode cX11_isOn 5 = .ok (.lconst 0, 1) := dgX11_isOn_0 (5, (.lconst 0, 1)) (List.mem_of_getElem? (i := 5) rfl)
theorem dX11_isOn_6 : decode cX11_isOn 6 = .ok (.lcmp, 1) := dgX11_isOn_0 (6, (.lcmp, 1)) (List.mem_of_getElem? (i := 6) rfl)
theorem dX11_isOn_7 : decode cX11_isOn 7 = .ok (.ifCond .eq 7, 3) := dgX11_isOn_0 (7, (.ifCond .eq 7, 3)) (List.mem_of_getElem? (i := 7) rfl)
theorem dX11_isOn_10 : decode cX11_isOn 10 = .ok (.iconst 1, 1) := dgX11_isOn_0 (10, (.iconst 1, 1)) (List.mem_of_getElem? (i := 8) rfl)
theorem dX11_isOn_11 : decode cX11_isOn 11 = .ok (.goto 4, 3) := dgX11_isOn_0 (11, (.goto 4, 3)) (List.mem_of_getElem? (i := 9) rfl)
theorem dX11_isOn_14 : decode cX11_isOn 14 = .ok (.iconst 0, 1) := dgX11_isOn_0 (14, (.iconst 0, 1)) (List.mem_of_getElem? (i := 10) rfl)
theorem dX11_isOn_15 : decode cX11_isOn 15 = .ok (.ireturn, 1) := dgX11_isOn_0 (15, (.ireturn, 1)) (List.mem_of_getElem? (i := 11) rfl)
set_option maxHeartbeats 4000000 in
set_option maxRecDepth 100000 in
theorem k_isOn (l : Launch) (G : g5_G) (sz : Nat) (p_c : Int32) (p_b : Int64) (h_p_c : 0 ≤ p_c.toInt ∧ p_c.toInt ≤ 63) : Met l yX11_isOn (wsG yX11_isOn cX11_isOn 3 (some .boolean)) ({ frames := 0, cells := 0, slots := 0, locals := 0 }) (va_Pc [.long p_b, .int p_c] (g5_P G [] sz)) (va_Qi (fun (r : Int32) (u : va_W) => ((onB p_b p_c.toInt = false) ∧ (r = 0) ∧ (u = [])) ∨ ((onB p_b p_c.toInt = true) ∧ (r = 1) ∧ (u = []))) (g5_B G (va_A [] sz)) (va_A [] sz)) 0 0 (va_A [] sz) := by
  refine Met.ofW (cc := cX11_isOn) (maxL := 3) (ret := (some .boolean)) (by decide) rfl ?_
  intro p e s m args below meth c s₁ B hml hv
  obtain ⟨rfl, hsz, hP, hK, hD0, hN, hT⟩ := hv
  have hx := B.exec
  have hb := B.bytes
  have hr := B.returns
  have hts : ∀ w ∈ tblG, w.before _ s = true := fun w h => atoms_spec (ws := (wsG yX11_isOn cX11_isOn 3 (some .boolean))) B.pre w (List.mem_cons_of_mem _ h)
  have hown : s.vm.findClass RX11 = some m.cls := findClass_of_methodNamed B.named
  have hlocks := B.notSynchronized
  subst hsz
  have hD := hD0.self (sz := s.heap.size)
  generalize hAe : va_A [] s.heap.size = A at hD hT ⊢
  have hA : ∀ q : Nat, s.heap.size ≤ q → A q := fun q h => by rw [← hAe]; exact Or.inr h
  have hS : va_S A s.heap s.heap [] := va_S.rf
  have hP : va_P G.1 vwCl [] s.heap := hP
  have hl := lv_entry ([.long p_b, .int p_c]) (n := 3) (Nat.le_of_ble_eq_true rfl)
  rw [lg_entry_eq]
  generalize (lg_sl ([.long p_b, .int p_c]) ++ List.replicate (3 - (lg_sl ([.long p_b, .int p_c])).length) Slot.unset).toArray = ls at hl ⊢
  have hl : lv_has ls 3 [(0, .long p_b), (2, .int p_c)] := hl
  refine lv_lload_n hx hb dX11_isOn_0 rfl (lv_at hl 0 rfl) ?_
  refine lv_iload_n hx hb dX11_isOn_1 rfl (lv_at hl 1 rfl) ?_
  refine lv_lushr (v := ((p_b.toUInt64 >>> (p_c.toInt64.toUInt64 &&& Int64.toUInt64 63)).toInt64)) hx hb dX11_isOn_2 rfl ?_
  refine lv_lconst (v := 1) hx hb dX11_isOn_3 (by decide) ?_
  refine W.eq (g2 := F0 m 4 ls [.long 1, .long ((p_b.toUInt64 >>> (p_c.toInt64.toUInt64 &&& Int64.toUInt64 63)).toInt64)]) rfl ?_
  refine lv_land hx hb dX11_isOn_4 ?_
  refine lv_lconst (v := 0) hx hb dX11_isOn_5 (by decide) ?_
  refine W.lcmp hx hb dX11_isOn_6 ?_
  refine lv_if_eq (tgt := 14) hx hb dX11_isOn_7 (by decide) (fun c_1 => ?_) (fun c_1 => ?_)
  ·
    have i_1 : (lg_cmp (((p_b.toUInt64 >>> (p_c.toInt64.toUInt64 &&& Int64.toUInt64 63)).toInt64) &&& 1) 0).toInt = 0 := by have z := g5_eq (a := (lg_cmp (((p_b.toUInt64 >>> (p_c.toInt64.toUInt64 &&& Int64.toUInt64 63)).toInt64) &&& 1) 0).toInt) (b := 0) (by rfl) (by decide) c_1; omega
    refine lv_iconst (v := 0) hx hb dX11_isOn_14 (by decide) ?_
    exact W.zret (v := 0) hx hb hr rfl (fun t ht hW => ⟨⟨0, [], rfl, Or.inl (⟨g5_onF (by omega) (by omega) (by omega), rfl, rfl⟩), by rw [ht]; exact hP.sub [] rfl, hD.sub [] (by decide) rfl⟩, hS.F ht⟩) hS.2.2 dX11_isOn_15
  ·
    have n_1 : gNe ((lg_cmp (((p_b.toUInt64 >>> (p_c.toInt64.toUInt64 &&& Int64.toUInt64 63)).toInt64) &&& 1) 0).toInt) (0) := by have z := g5_eqN (a := (lg_cmp (((p_b.toUInt64 >>> (p_c.toInt64.toUInt64 &&& Int64.toUInt64 63)).toInt64) &&& 1) 0).toInt) (b := 0) (by rfl) (by decide) c_1; unfold gNe; omega
    refine lv_iconst (v := 1) hx hb dX11_isOn_10 (by decide) ?_
    refine lv_goto (tgt := 15) hx hb dX11_isOn_11 (by decide) ?_
    exact W.zret (v := 1) hx hb hr rfl (fun t ht hW => ⟨⟨1, [], rfl, Or.inr (⟨g5_onT (by omega) (by omega) n_1, rfl, rfl⟩), by rw [ht]; exact hP.sub [] rfl, hD.sub [] (by decide) rfl⟩, hS.F ht⟩) hS.2.2 dX11_isOn_15
theorem dgX1_isWalled_0 : ∀ r ∈ ([(0, (.iload_n 1, 1)), (1, (.iconst (-1), 1)), (2, (.if_icmp .eq 18, 3)), (5, (.aload_n 0, 1)), (6, (.getfield 9, 3)), (9, (.iload_n 1, 1)), (10, (.invokestatic 62, 3)), (13, (.ifCond .eq 7, 3)), (16, (.iconst 1, 1)), (17, (.goto 4, 3)), (20, (.iconst 0, 1)), (21, (.ireturn, 1))] : List (Nat × (Instr × Nat))), decode cX1_isWalled r.1 = .ok r.2 := by decide +kernel
theorem dX1_isWalled_0 : decode cX1_isWalled 0 = .ok (.iload_n 1, 1) := dgX1_isWalled_0 (0, (.iload_n 1, 1)) (List.mem_of_getElem? (i := 0) rfl)
theorem dX1_isWalled_1 : decode cX1_isWalled 1 = .ok (.iconst (-1), 1) := dgX1_isWalled_0 (1, (.iconst (-1), 1)) (List.mem_of_getElem? (i := 1) rfl)
theorem dX1_isWalled_2 : decode cX1_isWalled 2 = .ok (.if_icmp .eq 18, 3) := dgX1_isWalled_0 (2, (.if_icmp .eq 18, 3)) (List.mem_of_getElem? (i := 2) rfl)
theorem dX1_isWalled_5 : decode cX1_isWalled 5 = .ok (.aload_n 0, 1) := dgX1_isWalled_0 (5, (.aload_n 0, 1)) (List.mem_of_getElem? (i := 3) rfl)
theorem dX1_isWalled_6 : decode cX1_isWalled 6 = .ok (.getfield 9, 3) := dgX1_isWalled_0 (6, (.getfield 9, 3)) (List.mem_of_getElem? (i := 4) rfl)
theorem dX1_isWalled_9 : decode cX1_isWalled 9 = .ok (.iload_n 1, 1) := dgX1_isWalled_0 (9, (.iload_n 1, 1)) (List.mem_of_getElem? (i := 5) rfl)
theorem dX1_isWalled_10 : decode cX1_isWalled 10 = .ok (.invokestatic 62, 3) := dgX1_isWalled_0 (10, (.invokestatic 62, 3)) (List.mem_of_getElem? (i := 6) rfl)
theorem dX1_isWalled_13 : decode cX1_isWalled 13 = .ok (.ifCond .eq 7, 3) := dgX1_isWalled_0 (13, (.ifCond .eq 7, 3)) (List.mem_of_getElem? (i := 7) rfl)
theorem dX1_isWalled_16 : decode cX1_isWalled 16 = .ok (.iconst 1, 1) := dgX1_isWalled_0 (16, (.iconst 1, 1)) (List.mem_of_getElem? (i := 8) rfl)
theorem dX1_isWalled_17 : decode cX1_isWalled 17 = .ok (.goto 4, 3) := dgX1_isWalled_0 (17, (.goto 4, 3)) (List.mem_of_getElem? (i := 9) rfl)
theorem dX1_isWalled_20 : decode cX1_isWalled 20 = .ok (.iconst 0, 1) := dgX1_isWalled_0 (20, (.iconst 0, 1)) (List.mem_of_getElem? (i := 10) rfl)
theorem dX1_isWalled_21 : decode cX1_isWalled 21 = .ok (.ireturn, 1) := dgX1_isWalled_0 (21, (.ireturn, 1)) (List.mem_of_getElem? (i := 11) rfl)
theorem inG_X1 : ∀ w ∈ wsX10, w ∈ tblG := tgs [193, 195, 197, 199, 201, 203, 205, 207, 209, 211, 213, 215, 217] (by decide +kernel) (by decide +kernel)
theorem fl_X1_9 : Cond.fieldLink RX1 9 "LateGlass$House" "walls" "J" ∈ tblG := tg 153 (by decide +kernel) (by decide +kernel)
theorem cd_X11_isOn : Cond.code yX11_isOn cX11_isOn 3 (some .boolean) ∈ tblG := tg 516 (by decide +kernel) (by decide +kernel)
theorem gW_X11_isOn : GoodIn tblG (wsG yX11_isOn cX11_isOn 3 (some .boolean)) := tgi cd_X11_isOn
theorem ini_X11 : Cond.initialized RX11 ∈ tblG := tg 88 (by decide +kernel) (by decide +kernel)
theorem hs_X11_isOn : yX11_isOn.cls ≠ "java/lang/invoke/MethodHandle" ∧ yX11_isOn.cls ≠ "java/lang/invoke/VarHandle" ∧ (parseMethodDescriptor yX11_isOn.desc).map (fun d => d.parameters.length) = some 2 := by decide +kernel
theorem st_X11_isOn : Cond.static yX11_isOn ∈ tblG := tg 515 (by decide +kernel) (by decide +kernel)
set_option maxHeartbeats 4000000 in
set_option maxRecDepth 100000 in
theorem h_isWalled (l : Launch) (G : g5_G) (a_h a_l a_g a_b a_s a_p a_w a_bb : Nat) (sz : Nat) (e_le : Int32) (e_st : Int32) (e_fo : Int32) (e_lc : Int32) (p_c : Int32) (e_wa : Int64) (e_gb : Int64) (h_p_c : (-1) ≤ p_c.toInt ∧ p_c.toInt ≤ 63) : Met l yX1_isWalled (wsG yX1_isWalled cX1_isWalled 2 (some .boolean)) ({ frames := 1, cells := 0, slots := 0, locals := 22 }) (va_Pc [.ref a_h, .int p_c] (g5_P G [(a_h, (oc1 e_wa e_le e_st e_fo e_lc a_l a_g a_b a_s a_p a_w e_gb a_bb))] sz)) (va_Qi (fun (r : Int32) (u : va_W) => ((0 ≤ p_c.toInt ∧ onB e_wa p_c.toInt = true) ∧ (r = 1) ∧ (u = [(a_h, (oc1 e_wa e_le e_st e_fo e_lc a_l a_g a_b a_s a_p a_w e_gb a_bb))])) ∨ ((p_c.toInt = -1 ∨ onB e_wa p_c.toInt = false) ∧ (r = 0) ∧ (u = [(a_h, (oc1 e_wa e_le e_st e_fo e_lc a_l a_g a_b a_s a_p a_w e_gb a_bb))]))) (g5_B G (va_A [(a_h, (oc1 e_wa e_le e_st e_fo e_lc a_l a_g a_b a_s a_p a_w e_gb a_bb))] sz)) (va_A [(a_h, (oc1 e_wa e_le e_st e_fo e_lc a_l a_g a_b a_s a_p a_w e_gb a_bb))] sz)) 0 0 (va_A [(a_h, (oc1 e_wa e_le e_st e_fo e_lc a_l a_g a_b a_s a_p a_w e_gb a_bb))] sz) := by
  refine Met.ofW (cc := cX1_isWalled) (maxL := 2) (ret := (some .boolean)) (by decide +kernel) rfl ?_
  intro p e s m args below meth c s₁ B hml hv
  obtain ⟨rfl, hsz, hP, hK, hD0, hN, hT⟩ := hv
  have hx := B.exec
  have hb := B.bytes
  have hr := B.returns
  have hts : ∀ w ∈ tblG, w.before _ s = true := fun w h => atoms_spec (ws := (wsG yX1_isWalled cX1_isWalled 2 (some .boolean))) B.pre w (List.mem_cons_of_mem _ h)
  have hown : s.vm.findClass RX1 = some m.cls := findClass_of_methodNamed B.named
  have hlocks := B.notSynchronized
  subst hsz
  have hD := hD0.self (sz := s.heap.size)
  generalize hAe : va_A [(a_h, (oc1 e_wa e_le e_st e_fo e_lc a_l a_g a_b a_s a_p a_w e_gb a_bb))] s.heap.size = A at hD hT ⊢
  have hA : ∀ q : Nat, s.heap.size ≤ q → A q := fun q h => by rw [← hAe]; exact Or.inr h
  have hS : va_S A s.heap s.heap [] := va_S.rf
  replace hP : va_P G.1 vwCl [(a_h, (oc1 e_wa e_le e_st e_fo e_lc a_l a_g a_b a_s a_p a_w e_gb a_bb))] s.heap := hP
  have hl := lv_entry ([.ref a_h, .int p_c]) (n := 2) (Nat.le_of_ble_eq_true rfl)
  rw [lg_entry_eq]
  generalize (lg_sl ([.ref a_h, .int p_c]) ++ List.replicate (2 - (lg_sl ([.ref a_h, .int p_c])).length) Slot.unset).toArray = ls at hl ⊢
  replace hl : lv_has ls 2 [(0, .ref a_h), (1, .int p_c)] := hl
  refine lv_iload_n hx hb dX1_isWalled_0 rfl (lv_at hl 1 rfl) ?_
  refine lv_iconst (v := (-1)) hx hb dX1_isWalled_1 (by decide +kernel) ?_
  refine lv_icmp_eq (tgt := 20) hx hb dX1_isWalled_2 (by decide +kernel) (fun c_1 => ?_) (fun c_1 => ?_)
  ·
    have i_1 : p_c.toInt = (-1) := g5_eq (a := p_c.toInt) (b := (-1)) rfl (by decide +kernel) c_1
    refine lv_iconst (v := 0) hx hb dX1_isWalled_20 (by decide +kernel) ?_
    exact W.zret (v := 0) hx hb hr rfl (fun t ht hW => ⟨⟨0, [(a_h, (oc1 e_wa e_le e_st e_fo e_lc a_l a_g a_b a_s a_p a_w e_gb a_bb))], rfl, Or.inr (⟨Or.inl (by omega), rfl, rfl⟩), by rw [ht]; exact hP.sub [0] rfl, hD.sub [0] (by decide +kernel) rfl⟩, hS.F ht⟩) hS.2.2 dX1_isWalled_21
  ·
    have n_1 : gNe (p_c.toInt) ((-1)) := g5_eqN (a := p_c.toInt) (b := (-1)) rfl (by decide +kernel) c_1
    have i_1 : p_c.toInt ≥ 0 := by have z := g5_eqN (a := p_c.toInt) (b := (-1)) (by rfl) (by decide +kernel) c_1; omega
    refine lv_aload_n hx hb dX1_isWalled_5 rfl (lv_at hl 0 rfl) ?_
    refine va_get (D := G.1) (ci := 1) (v := .long e_wa) (C := RX1) (T := TX1) (N := 13) hx hb hts inG_X1 hown hK hP 0 rfl rfl 0 (by decide +kernel) (hts _ fl_X1_9) (fun _ h9 => h9) rfl dX1_isWalled_6 ?_
    refine lv_iload_n hx hb dX1_isWalled_9 rfl (lv_at hl 1 rfl) ?_
    obtain ⟨hPc, hDc, hFc⟩ := g5_sub3 (wc := []) hP hD hS hA [] (by decide +kernel) rfl
    refine va_calli (va_runSN (As := [.long e_wa, .int p_c]) (rest := []) ⟨hx, hb, hml, hown, hts⟩ (k_isOn l G s.heap.size p_c e_wa ⟨by omega, by omega⟩) ⟨va_cnB 2 hts gW_X11_isOn rfl rfl rfl (hN.1 _ g5_nw_X1_62) (hts _ ini_X11) hs_X11_isOn ⟨Nat.le_of_ble_eq_true rfl, Nat.le_of_ble_eq_true rfl⟩, hts _ st_X11_isOn, trivial⟩ (g5_preS hPc hK hDc hN hT hS hFc) rfl rfl hl.1 rfl (lv_room (Nat.le_of_ble_eq_true rfl)) dX1_isWalled_10 ⟨Nat.le_of_ble_eq_true rfl, Nat.le_of_ble_eq_true rfl⟩) hS (fun q _ h => hFc q h) hFc (fun r u t H locs ht hvm hw hB hz1 hk1 hS => ?_)
    obtain ⟨hP1, hD1⟩ := hB
    have hP1 := g5_ht ht hP1
    rcases hw with ⟨(i_2 : onB e_wa p_c.toInt = false), rfl, rfl⟩ | ⟨(i_3 : onB e_wa p_c.toInt = true), rfl, rfl⟩
    ·
      have hJ9 := g5_same hP hk1
      clear hP hPc hDc hFc ht hvm hz1 hk1 hP1 hD1
      have hP := hJ9
      clear hJ9
      refine lv_if_eq (tgt := 20) hx hb dX1_isWalled_13 (by decide +kernel) (fun c_4 => ?_) (fun c_4 => ?_)
      ·
        refine lv_iconst (v := 0) hx hb dX1_isWalled_20 (by decide +kernel) ?_
        exact W.zret (v := 0) hx hb hr rfl (fun t ht hW => ⟨⟨0, [(a_h, (oc1 e_wa e_le e_st e_fo e_lc a_l a_g a_b a_s a_p a_w e_gb a_bb))], rfl, Or.inr (⟨Or.inr i_2, rfl, rfl⟩), by rw [ht]; exact hP.sub [0] rfl, hD.sub [0] (by decide +kernel) rfl⟩, hS.F ht⟩) hS.2.2 dX1_isWalled_21
      ·
        exact absurd c_4 (by decide +kernel)
    ·
      have hJ9 := g5_same hP hk1
      clear hP hPc hDc hFc ht hvm hz1 hk1 hP1 hD1
      have hP := hJ9
      clear hJ9
      refine lv_if_eq (tgt := 20) hx hb dX1_isWalled_13 (by decide +kernel) (fun c_5 => ?_) (fun c_5 => ?_)
      ·
        exact absurd c_5 (by decide +kernel)
      ·
        refine lv_iconst (v := 1) hx hb dX1_isWalled_16 (by decide +kernel) ?_
        refine lv_goto (tgt := 21) hx hb dX1_isWalled_17 (by decide +kernel) ?_
        exact W.zret (v := 1) hx hb hr rfl (fun t ht hW => ⟨⟨1, [(a_h, (oc1 e_wa e_le e_st e_fo e_lc a_l a_g a_b a_s a_p a_w e_gb a_bb))], rfl, Or.inl (⟨⟨by omega, i_3⟩, rfl, rfl⟩), by rw [ht]; exact hP.sub [0] rfl, hD.sub [0] (by decide +kernel) rfl⟩, hS.F ht⟩) hS.2.2 dX1_isWalled_21
theorem dgX1_canHang_0 : ∀ r ∈ ([(0, (.aload_n 0, 1)), (1, (.getfield 9, 3)), (4, (.aload_n 0, 1)), (5, (.getfield 55, 3)), (8, (.lor, 1)), (9, (.iload_n 1, 1)), (10, (.invokestatic 62, 3)), (13, (.ifCond .ne 20, 3)), (16, (.aload_n 0, 1)), (17, (.getfield 49, 3)), (20, (.iconst 0, 1)), (21, (.iload_n 1, 1)), (22, (.invokevirtual 66, 3)), (25, (.iconst (-1), 1)), (26, (.if_icmp .ne 7, 3)), (29, (.iconst 1, 1)), (30, (.goto 4, 3)), (33, (.iconst 0, 1)), (34, (.ireturn, 1))] : List (Nat × (Instr × Nat))), decode cX1_canHang r.1 = .ok r.2 := by decide +kernel
theorem dX1_canHang_0 : decode cX1_canHang 0 = .ok (.aload_n 0, 1) := dgX1_canHang_0 (0, (.aload_n 0, 1)) (List.mem_of_getElem? (i := 0) rfl)
theorem dX1_canHang_1 : decode cX1_canHang 1 = .ok (.getfield 9, 3) := dgX1_canHang_0 (1, (.getfield 9, 3)) (List.mem_of_getElem? (i := 1) rfl)
theorem dX1_canHang_4 : decode cX1_canHang 4 = .ok (.aload_n 0, 1) := dgX1_canHang_0 (4, (.aload_n 0, 1)) (List.mem_of_getElem? (i := 2) rfl)
theorem dX1_canHang_5 : decode cX1_canHang 5 = .ok (.getfield 55, 3) := dgX1_canHang_0 (5, (.getfield 55, 3)) (List.mem_of_getElem? (i := 3) rfl)
theorem dX1_canHang_8 : decode cX1_canHang 8 = .ok (.lor, 1) := dgX1_canHang_0 (8, (.lor, 1)) (List.mem_of_getElem? (i := 4) rfl)
theorem dX1_canHang_9 : decode cX1_canHang 9 = .ok (.iload_n 1, 1) := dgX1_canHang_0 (9, (.iload_n 1, 1)) (List.mem_of_getElem? (i := 5) rfl)
theorem dX1_canHang_10 : decode cX1_canHang 10 = .ok (.invokestatic 62, 3) := dgX1_canHang_0 (10, (.invokestatic 62, 3)) (List.mem_of_getElem? (i := 6) rfl)
theorem dX1_canHang_13 : decode cX1_canHang 13 = .ok (.ifCond .ne 20, 3) := dgX1_canHang_0 (13, (.ifCond .ne 20, 3)) (List.mem_of_getElem? (i := 7) rfl)
theorem dX1_canHang_16 : decode cX1_canHang 16 = .ok (.aload_n 0, 1) := dgX1_canHang_0 (16, (.aload_n 0, 1)) (List.mem_of_getElem? (i := 8) rfl)
theorem dX1_canHang_17 : decode cX1_canHang 17 = .ok (.getfield 49, 3) := dgX1_canHang_0 (17, (.getfield 49, 3)) (List.mem_of_getElem? (i := 9) rfl)
theorem dX1_canHang_20 : decode cX1_canHang 20 = .ok (.iconst 0, 1) := dgX1_canHang_0 (20, (.iconst 0, 1)) (List.mem_of_getElem? (i := 10) rfl)
theorem dX1_canHang_21 : decode cX1_canHang 21 = .ok (.iload_n 1, 1) := dgX1_canHang_0 (21, (.iload_n 1, 1)) (List.mem_of_getElem? (i := 11) rfl)
theorem dX1_canHang_22 : decode cX1_canHang 22 = .ok (.invokevirtual 66, 3) := dgX1_canHang_0 (22, (.invokevirtual 66, 3)) (List.mem_of_getElem? (i := 12) rfl)
theorem dX1_canHang_25 : decode cX1_canHang 25 = .ok (.iconst (-1), 1) := dgX1_canHang_0 (25, (.iconst (-1), 1)) (List.mem_of_getElem? (i := 13) rfl)
theorem dX1_canHang_26 : decode cX1_canHang 26 = .ok (.if_icmp .ne 7, 3) := dgX1_canHang_0 (26, (.if_icmp .ne 7, 3)) (List.mem_of_getElem? (i := 14) rfl)
theorem dX1_canHang_29 : decode cX1_canHang 29 = .ok (.iconst 1, 1) := dgX1_canHang_0 (29, (.iconst 1, 1)) (List.mem_of_getElem? (i := 15) rfl)
theorem dX1_canHang_30 : decode cX1_canHang 30 = .ok (.goto 4, 3) := dgX1_canHang_0 (30, (.goto 4, 3)) (List.mem_of_getElem? (i := 16) rfl)
theorem dX1_canHang_33 : decode cX1_canHang 33 = .ok (.iconst 0, 1) := dgX1_canHang_0 (33, (.iconst 0, 1)) (List.mem_of_getElem? (i := 17) rfl)
theorem dX1_canHang_34 : decode cX1_canHang 34 = .ok (.ireturn, 1) := dgX1_canHang_0 (34, (.ireturn, 1)) (List.mem_of_getElem? (i := 18) rfl)
theorem fl_X1_55 : Cond.fieldLink RX1 55 "LateGlass$House" "glassBoard" "J" ∈ tblG := tg 188 (by decide +kernel) (by decide +kernel)
theorem fl_X1_49 : Cond.fieldLink RX1 49 "LateGlass$House" "spots" "LLateGlass$Table;" ∈ tblG := tg 181 (by decide +kernel) (by decide +kernel)
theorem ml_X1_66 : Cond.methodLink RX1 66 yX6_find ∈ tblG := tg 517 (by decide +kernel) (by decide +kernel)
theorem im_X6_find : Cond.instanceMethod yX6_find ∈ tblG := tg 518 (by decide +kernel) (by decide +kernel)
theorem se_X6_find : Cond.selects RX6 yX6_find yX6_find ∈ tblG := tg 519 (by decide +kernel) (by decide +kernel)
theorem cd_X6_find : Cond.code yX6_find cX6_find 4 (some .int) ∈ tblG := tg 520 (by decide +kernel) (by decide +kernel)
theorem gW_X6_find : GoodIn tblG (wsG yX6_find cX6_find 4 (some .int)) := tgi cd_X6_find
theorem gV_X1_66 : GoodIn tblG (wsV RX1 66 RX6 yX6_find (wsG yX6_find cX6_find 4 (some .int))) := tgV ml_X1_66 im_X6_find se_X6_find ini_X6 gW_X6_find
theorem hv_X6_find : yX6_find.cls = RX6 ∧ yX6_find.cls ≠ "java/lang/invoke/MethodHandle" ∧ yX6_find.cls ≠ "java/lang/invoke/VarHandle" ∧ (parseMethodDescriptor yX6_find.desc).map (fun d => d.parameters.length) = some 2 := by decide +kernel
set_option maxHeartbeats 4000000 in
set_option maxRecDepth 100000 in
theorem h_canHang (l : Launch) (G : g5_G) (a_h a_p a_pn a_l a_g a_b a_s a_w a_bb : Nat) (sz : Nat) (e_le : Int32) (e_st : Int32) (e_fo : Int32) (e_lc : Int32) (e_p : Int32) (p_c : Int32) (e_wa : Int64) (e_gb : Int64) (f_p : Nat → Int32) (h_e_p : 0 ≤ e_p.toInt ∧ e_p.toInt ≤ 8) (h_p_c : 0 ≤ p_c.toInt ∧ p_c.toInt ≤ 63) : Met l yX1_canHang (wsG yX1_canHang cX1_canHang 2 (some .boolean)) ({ frames := 2, cells := 0, slots := 0, locals := 45 }) (va_Pc [.ref a_h, .int p_c] (g5_P G [(a_h, (oc1 e_wa e_le e_st e_fo e_lc a_l a_g a_b a_s a_p a_w e_gb a_bb)), (a_p, (oc6 8 5 a_pn e_p)), (a_pn, (arI G 40 f_p))] sz)) (va_Qi (fun (r : Int32) (u : va_W) => ((onB (e_wa ||| e_gb) p_c.toInt = false) ∧ (∀ r : Int, 0 ≤ r → r < e_p.toInt → tget f_p e_p.toInt 5 r (0 : Int32).toInt ≠ p_c) ∧ (r = 1) ∧ (u = [(a_h, (oc1 e_wa e_le e_st e_fo e_lc a_l a_g a_b a_s a_p a_w e_gb a_bb)), (a_p, (oc6 8 5 a_pn e_p)), (a_pn, (arI G 40 f_p))])) ∨ ((onB (e_wa ||| e_gb) p_c.toInt = true ∨ ∃ r : Int, 0 ≤ r ∧ r < e_p.toInt ∧ tget f_p e_p.toInt 5 r (0 : Int32).toInt = p_c) ∧ (r = 0) ∧ (u = [(a_h, (oc1 e_wa e_le e_st e_fo e_lc a_l a_g a_b a_s a_p a_w e_gb a_bb)), (a_p, (oc6 8 5 a_pn e_p)), (a_pn, (arI G 40 f_p))]))) (g5_B G (va_A [(a_h, (oc1 e_wa e_le e_st e_fo e_lc a_l a_g a_b a_s a_p a_w e_gb a_bb)), (a_p, (oc6 8 5 a_pn e_p)), (a_pn, (arI G 40 f_p))] sz)) (va_A [(a_h, (oc1 e_wa e_le e_st e_fo e_lc a_l a_g a_b a_s a_p a_w e_gb a_bb)), (a_p, (oc6 8 5 a_pn e_p)), (a_pn, (arI G 40 f_p))] sz)) 0 0 (va_A [(a_h, (oc1 e_wa e_le e_st e_fo e_lc a_l a_g a_b a_s a_p a_w e_gb a_bb)), (a_p, (oc6 8 5 a_pn e_p)), (a_pn, (arI G 40 f_p))] sz) := by
  refine Met.ofW (cc := cX1_canHang) (maxL := 2) (ret := (some .boolean)) (by decide +kernel) rfl ?_
  intro p e s m args below meth c s₁ B hml hv
  obtain ⟨rfl, hsz, hP, hK, hD0, hN, hT⟩ := hv
  have hx := B.exec
  have hb := B.bytes
  have hr := B.returns
  have hts : ∀ w ∈ tblG, w.before _ s = true := fun w h => atoms_spec (ws := (wsG yX1_canHang cX1_canHang 2 (some .boolean))) B.pre w (List.mem_cons_of_mem _ h)
  have hown : s.vm.findClass RX1 = some m.cls := findClass_of_methodNamed B.named
  have hlocks := B.notSynchronized
  subst hsz
  have hD := hD0.self (sz := s.heap.size)
  generalize hAe : va_A [(a_h, (oc1 e_wa e_le e_st e_fo e_lc a_l a_g a_b a_s a_p a_w e_gb a_bb)), (a_p, (oc6 8 5 a_pn e_p)), (a_pn, (arI G 40 f_p))] s.heap.size = A at hD hT ⊢
  have hA : ∀ q : Nat, s.heap.size ≤ q → A q := fun q h => by rw [← hAe]; exact Or.inr h
  have hS : va_S A s.heap s.heap [] := va_S.rf
  replace hP : va_P G.1 vwCl [(a_h, (oc1 e_wa e_le e_st e_fo e_lc a_l a_g a_b a_s a_p a_w e_gb a_bb)), (a_p, (oc6 8 5 a_pn e_p)), (a_pn, (arI G 40 f_p))] s.heap := hP
  have hl := lv_entry ([.ref a_h, .int p_c]) (n := 2) (Nat.le_of_ble_eq_true rfl)
  rw [lg_entry_eq]
  generalize (lg_sl ([.ref a_h, .int p_c]) ++ List.replicate (2 - (lg_sl ([.ref a_h, .int p_c])).length) Slot.unset).toArray = ls at hl ⊢
  replace hl : lv_has ls 2 [(0, .ref a_h), (1, .int p_c)] := hl
  refine lv_aload_n hx hb dX1_canHang_0 rfl (lv_at hl 0 rfl) ?_
  refine va_get (D := G.1) (ci := 1) (v := .long e_wa) (C := RX1) (T := TX1) (N := 13) hx hb hts inG_X1 hown hK hP 0 rfl rfl 0 (by decide +kernel) (hts _ fl_X1_9) (fun _ h9 => h9) rfl dX1_canHang_1 ?_
  refine lv_aload_n hx hb dX1_canHang_4 rfl (lv_at hl 0 rfl) ?_
  refine va_get (D := G.1) (ci := 1) (v := .long e_gb) (C := RX1) (T := TX1) (N := 13) hx hb hts inG_X1 hown hK hP 0 rfl rfl 11 (by decide +kernel) (hts _ fl_X1_55) (fun _ h9 => h9) rfl dX1_canHang_5 ?_
  refine W.eq (g2 := F0 m 8 ls [.long e_gb, .long e_wa]) rfl ?_
  refine lv_lor hx hb dX1_canHang_8 ?_
  refine lv_iload_n hx hb dX1_canHang_9 rfl (lv_at hl 1 rfl) ?_
  obtain ⟨hPc, hDc, hFc⟩ := g5_sub3 (wc := []) hP hD hS hA [] (by decide +kernel) rfl
  refine va_calli (va_runSN (As := [.long (e_wa ||| e_gb), .int p_c]) (rest := []) ⟨hx, hb, hml, hown, hts⟩ (k_isOn l G s.heap.size p_c (e_wa ||| e_gb) h_p_c) ⟨va_cnB 2 hts gW_X11_isOn rfl rfl rfl (hN.1 _ g5_nw_X1_62) (hts _ ini_X11) hs_X11_isOn ⟨Nat.le_of_ble_eq_true rfl, Nat.le_of_ble_eq_true rfl⟩, hts _ st_X11_isOn, trivial⟩ (g5_preS hPc hK hDc hN hT hS hFc) rfl rfl hl.1 rfl (lv_room (Nat.le_of_ble_eq_true rfl)) dX1_canHang_10 ⟨Nat.le_of_ble_eq_true rfl, Nat.le_of_ble_eq_true rfl⟩) hS (fun q _ h => hFc q h) hFc (fun r u t H locs ht hvm hw hB hz1 hk1 hS => ?_)
  obtain ⟨hP1, hD1⟩ := hB
  have hP1 := g5_ht ht hP1
  rcases hw with ⟨(i_1 : onB (e_wa ||| e_gb) p_c.toInt = false), rfl, rfl⟩ | ⟨(i_2 : onB (e_wa ||| e_gb) p_c.toInt = true), rfl, rfl⟩
  ·
    have hJ9 := g5_same hP hk1
    clear hP hPc hDc hFc ht hvm hz1 hk1 hP1 hD1
    have hP := hJ9
    clear hJ9
    refine lv_if_ne (tgt := 33) hx hb dX1_canHang_13 (by decide +kernel) (fun c_3 => ?_) (fun c_3 => ?_)
    ·
      exact absurd c_3 (by decide +kernel)
    ·
      refine lv_aload_n hx hb dX1_canHang_16 rfl (lv_at hl 0 rfl) ?_
      refine va_get (D := G.1) (ci := 1) (v := .ref a_p) (C := RX1) (T := TX1) (N := 13) hx hb hts inG_X1 hown hK hP 0 rfl rfl 9 (by decide +kernel) (hts _ fl_X1_49) (fun _ h9 => h9) rfl dX1_canHang_17 ?_
      refine lv_iconst (v := 0) hx hb dX1_canHang_20 (by decide +kernel) ?_
      refine lv_iload_n hx hb dX1_canHang_21 rfl (lv_at hl 1 rfl) ?_
      refine W.eq (g2 := F0 m 22 ls [.int p_c, .int 0, .ref a_p]) rfl ?_
      obtain ⟨hPc, hDc, hFc⟩ := g5_sub3 (wc := [(a_p, (oc6 8 5 a_pn e_p)), (a_pn, (arI G 40 f_p))]) hP hD hS hA [1, 2] (by decide +kernel) rfl
      refine va_calli (va_runV (As := [.int 0, .int p_c]) (rest := []) ⟨hx, hb, hml, hown, hts⟩ (t_find_P l G a_p a_pn H.size e_p 0 p_c f_p h_e_p) (cwV 2 hts gV_X1_66 rfl rfl rfl hv_X6_find ⟨Nat.le_of_ble_eq_true rfl, Nat.le_of_ble_eq_true rfl⟩) (g5_preV hPc hK hDc hN hT hS hFc (ci := 6) (q0 := 0) rfl rfl) rfl rfl hl.1 rfl (lv_room (Nat.le_of_ble_eq_true rfl)) dX1_canHang_22 ⟨Nat.le_of_ble_eq_true rfl, Nat.le_of_ble_eq_true rfl⟩) hS (fun q _ h => hFc q h) hFc (fun r u t H locs ht hvm hw hB hz1 hk1 hS => ?_)
      obtain ⟨hP1, hD1⟩ := hB
      have hP1 := g5_ht ht hP1
      rcases hw with ⟨(i_4 : ∀ r : Int, 0 ≤ r → r < e_p.toInt → tget f_p e_p.toInt 5 r (0 : Int32).toInt ≠ p_c), rfl, rfl⟩ | ⟨z7, (i_5 : 0 ≤ z7.toInt ∧ z7.toInt < e_p.toInt), (i_6 : tget f_p e_p.toInt 5 z7.toInt (0 : Int32).toInt = p_c), y8, rfl⟩
      ·
        have hJ9 := va_join (wr := [(a_h, (oc1 e_wa e_le e_st e_fo e_lc a_l a_g a_b a_s a_p a_w e_gb a_bb))]) hP hD [1, 2] [0] rfl rfl (by decide +kernel) (by decide +kernel) hk1 hFc hP1 hD1
        clear hP hD hPc hDc hFc ht hvm hz1 hk1 hP1 hD1
        obtain ⟨hP, hD⟩ := hJ9
        refine g5_rs [(a_h, (oc1 e_wa e_le e_st e_fo e_lc a_l a_g a_b a_s a_p a_w e_gb a_bb)), (a_p, (oc6 8 5 a_pn e_p)), (a_pn, (arI G 40 f_p))] hP hD ?_
        clear hP hD
        intro hP hD
        refine lv_iconst (v := (-1)) hx hb dX1_canHang_25 (by decide +kernel) ?_
        refine lv_icmp_ne (tgt := 33) hx hb dX1_canHang_26 (by decide +kernel) (fun c_9 => ?_) (fun c_9 => ?_)
        ·
          exact absurd c_9 (by decide +kernel)
        ·
          refine lv_iconst (v := 1) hx hb dX1_canHang_29 (by decide +kernel) ?_
          refine lv_goto (tgt := 34) hx hb dX1_canHang_30 (by decide +kernel) ?_
          exact W.zret (v := 1) hx hb hr rfl (fun t ht hW => ⟨⟨1, [(a_h, (oc1 e_wa e_le e_st e_fo e_lc a_l a_g a_b a_s a_p a_w e_gb a_bb)), (a_p, (oc6 8 5 a_pn e_p)), (a_pn, (arI G 40 f_p))], rfl, Or.inl (⟨i_1, i_4, rfl, rfl⟩), by rw [ht]; exact hP.sub [0, 1, 2] rfl, hD.sub [0, 1, 2] (by decide +kernel) rfl⟩, hS.F ht⟩) hS.2.2 dX1_canHang_34
      ·
        have hJ9 := va_join (wr := [(a_h, (oc1 e_wa e_le e_st e_fo e_lc a_l a_g a_b a_s a_p a_w e_gb a_bb))]) hP hD [1, 2] [0] rfl rfl (by decide +kernel) (by decide +kernel) hk1 hFc hP1 hD1
        clear hP hD hPc hDc hFc ht hvm hz1 hk1 hP1 hD1
        obtain ⟨hP, hD⟩ := hJ9
        refine g5_rs [(a_h, (oc1 e_wa e_le e_st e_fo e_lc a_l a_g a_b a_s a_p a_w e_gb a_bb)), (a_p, (oc6 8 5 a_pn e_p)), (a_pn, (arI G 40 f_p))] hP hD ?_
        clear hP hD
        intro hP hD
        refine g5_ti (v := z7) y8 ?_
        refine lv_iconst (v := (-1)) hx hb dX1_canHang_25 (by decide +kernel) ?_
        refine lv_icmp_ne (tgt := 33) hx hb dX1_canHang_26 (by decide +kernel) (fun c_10 => ?_) (fun c_10 => ?_)
        ·
          have n_10 : gNe (z7.toInt) ((-1)) := g5_ne (a := z7.toInt) (b := (-1)) rfl (by decide +kernel) c_10
          refine lv_iconst (v := 0) hx hb dX1_canHang_33 (by decide +kernel) ?_
          exact W.zret (v := 0) hx hb hr rfl (fun t ht hW => ⟨⟨0, [(a_h, (oc1 e_wa e_le e_st e_fo e_lc a_l a_g a_b a_s a_p a_w e_gb a_bb)), (a_p, (oc6 8 5 a_pn e_p)), (a_pn, (arI G 40 f_p))], rfl, Or.inr (⟨Or.inr ⟨z7.toInt, i_5.1, i_5.2, i_6⟩, rfl, rfl⟩), by rw [ht]; exact hP.sub [0, 1, 2] rfl, hD.sub [0, 1, 2] (by decide +kernel) rfl⟩, hS.F ht⟩) hS.2.2 dX1_canHang_34
        ·
          have i_10 : z7.toInt = (-1) := g5_neN (a := z7.toInt) (b := (-1)) rfl (by decide +kernel) c_10
          omega
  ·
    have hJ9 := g5_same hP hk1
    clear hP hPc hDc hFc ht hvm hz1 hk1 hP1 hD1
    have hP := hJ9
    clear hJ9
    refine lv_if_ne (tgt := 33) hx hb dX1_canHang_13 (by decide +kernel) (fun c_11 => ?_) (fun c_11 => ?_)
    ·
      refine lv_iconst (v := 0) hx hb dX1_canHang_33 (by decide +kernel) ?_
      exact W.zret (v := 0) hx hb hr rfl (fun t ht hW => ⟨⟨0, [(a_h, (oc1 e_wa e_le e_st e_fo e_lc a_l a_g a_b a_s a_p a_w e_gb a_bb)), (a_p, (oc6 8 5 a_pn e_p)), (a_pn, (arI G 40 f_p))], rfl, Or.inr (⟨Or.inl i_2, rfl, rfl⟩), by rw [ht]; exact hP.sub [0, 1, 2] rfl, hD.sub [0, 1, 2] (by decide +kernel) rfl⟩, hS.F ht⟩) hS.2.2 dX1_canHang_34
    ·
      exact absurd c_11 (by decide +kernel)
theorem dgX1_isTaken_0 : ∀ r ∈ ([(0, (.iconst 0, 1)), (1, (.istore_n 2, 1)), (2, (.iload_n 2, 1)), (3, (.bipush 24, 2)), (5, (.if_icmp .ge 24, 3)), (8, (.aload_n 0, 1)), (9, (.getfield 58, 3)), (12, (.iload_n 2, 1)), (13, (.laload, 1)), (14, (.iload_n 1, 1)), (15, (.invokestatic 62, 3)), (18, (.ifCond .eq 5, 3)), (21, (.iconst 1, 1)), (22, (.ireturn, 1)), (23, (.iinc 2 1, 3)), (26, (.goto (-24), 3)), (29, (.aload_n 0, 1)), (30, (.getfield 55, 3)), (33, (.iload_n 1, 1)), (34, (.invokestatic 62, 3)), (37, (.ifCond .ne 24, 3)), (40, (.aload_n 0, 1)), (41, (.getfield 49, 3)), (44, (.iconst 0, 1)), (45, (.iload_n 1, 1)), (46, (.invokevirtual 66, 3)), (49, (.iconst (-1), 1)), (50, (.if_icmp .ne 11, 3)), (53, (.aload_n 0, 1)), (54, (.getfield 19, 3)), (57, (.iload_n 1, 1)), (58, (.if_icmp .ne 7, 3)), (61, (.iconst 1, 1)), (62, (.goto 4, 3)), (65, (.iconst 0, 1)), (66, (.ireturn, 1))] : List (Nat × (Instr × Nat))), decode cX1_isTaken r.1 = .ok r.2 := by decide +kernel
theorem dX1_isTaken_0 : decode cX1_isTaken 0 = .ok (.iconst 0, 1) := dgX1_isTaken_0 (0, (.iconst 0, 1)) (List.mem_of_getElem? (i := 0) rfl)
theorem dX1_isTaken_1 : decode cX1_isTaken 1 = .ok (.istore_n 2, 1) := dgX1_isTaken_0 (1, (.istore_n 2, 1)) (List.mem_of_getElem? (i := 1) rfl)
theorem dX1_isTaken_2 : decode cX1_isTaken 2 = .ok (.iload_n 2, 1) := dgX1_isTaken_0 (2, (.iload_n 2, 1)) (List.mem_of_getElem? (i := 2) rfl)
theorem dX1_isTaken_3 : decode cX1_isTaken 3 = .ok (.bipush 24, 2) := dgX1_isTaken_0 (3, (.bipush 24, 2)) (List.mem_of_getElem? (i := 3) rfl)
theorem dX1_isTaken_5 : decode cX1_isTaken 5 = .ok (.if_icmp .ge 24, 3) := dgX1_isTaken_0 (5, (.if_icmp .ge 24, 3)) (List.mem_of_getElem? (i := 4) rfl)
theorem dX1_isTaken_8 : decode cX1_isTaken 8 = .ok (.aload_n 0, 1) := dgX1_isTaken_0 (8, (.aload_n 0, 1)) (List.mem_of_getElem? (i := 5) rfl)
theorem dX1_isTaken_9 : decode cX1_isTaken 9 = .ok (.getfield 58, 3) := dgX1_isTaken_0 (9, (.getfield 58, 3)) (List.mem_of_getElem? (i := 6) rfl)
theorem dX1_isTaken_12 : decode cX1_isTaken 12 = .ok (.iload_n 2, 1) := dgX1_isTaken_0 (12, (.iload_n 2, 1)) (List.mem_of_getElem? (i := 7) rfl)
theorem dX1_isTaken_13 : decode cX1_isTaken 13 = .ok (.laload, 1) := dgX1_isTaken_0 (13, (.laload, 1)) (List.mem_of_getElem? (i := 8) rfl)
theorem dX1_isTaken_14 : decode cX1_isTaken 14 = .ok (.iload_n 1, 1) := dgX1_isTaken_0 (14, (.iload_n 1, 1)) (List.mem_of_getElem? (i := 9) rfl)
theorem dX1_isTaken_15 : decode cX1_isTaken 15 = .ok (.invokestatic 62, 3) := dgX1_isTaken_0 (15, (.invokestatic 62, 3)) (List.mem_of_getElem? (i := 10) rfl)
theorem dX1_isTaken_18 : decode cX1_isTaken 18 = .ok (.ifCond .eq 5, 3) := dgX1_isTaken_0 (18, (.ifCond .eq 5, 3)) (List.mem_of_getElem? (i := 11) rfl)
theorem dX1_isTaken_21 : decode cX1_isTaken 21 = .ok (.iconst 1, 1) := dgX1_isTaken_0 (21, (.iconst 1, 1)) (List.mem_of_getElem? (i := 12) rfl)
theorem dX1_isTaken_22 : decode cX1_isTaken 22 = .ok (.ireturn, 1) := dgX1_isTaken_0 (22, (.ireturn, 1)) (List.mem_of_getElem? (i := 13) rfl)
theorem dX1_isTaken_23 : decode cX1_isTaken 23 = .ok (.iinc 2 1, 3) := dgX1_isTaken_0 (23, (.iinc 2 1, 3)) (List.mem_of_getElem? (i := 14) rfl)
theorem dX1_isTaken_26 : decode cX1_isTaken 26 = .ok (.goto (-24), 3) := dgX1_isTaken_0 (26, (.goto (-24), 3)) (List.mem_of_getElem? (i := 15) rfl)
theorem dX1_isTaken_29 : decode cX1_isTaken 29 = .ok (.aload_n 0, 1) := dgX1_isTaken_0 (29, (.aload_n 0, 1)) (List.mem_of_getElem? (i := 16) rfl)
theorem dX1_isTaken_30 : decode cX1_isTaken 30 = .ok (.getfield 55, 3) := dgX1_isTaken_0 (30, (.getfield 55, 3)) (List.mem_of_getElem? (i := 17) rfl)
theorem dX1_isTaken_33 : decode cX1_isTaken 33 = .ok (.iload_n 1, 1) := dgX1_isTaken_0 (33, (.iload_n 1, 1)) (List.mem_of_getElem? (i := 18) rfl)
theorem dX1_isTaken_34 : decode cX1_isTaken 34 = .ok (.invokestatic 62, 3) := dgX1_isTaken_0 (34, (.invokestatic 62, 3)) (List.mem_of_getElem? (i := 19) rfl)
theorem dX1_isTaken_37 : decode cX1_isTaken 37 = .ok (.ifCond .ne 24, 3) := dgX1_isTaken_0 (37, (.ifCond .ne 24, 3)) (List.mem_of_getElem? (i := 20) rfl)
theorem dX1_isTaken_40 : decode cX1_isTaken 40 = .ok (.aload_n 0, 1) := dgX1_isTaken_0 (40, (.aload_n 0, 1)) (List.mem_of_getElem? (i := 21) rfl)
theorem dX1_isTaken_41 : decode cX1_isTaken 41 = .ok (.getfield 49, 3) := dgX1_isTaken_0 (41, (.getfield 49, 3)) (List.mem_of_getElem? (i := 22) rfl)
theorem dX1_isTaken_44 : decode cX1_isTaken 44 = .ok (.iconst 0, 1) := dgX1_isTaken_0 (44, (.iconst 0, 1)) (List.mem_of_getElem? (i := 23) rfl)
theorem dX1_isTaken_45 : decode cX1_isTaken 45 = .ok (.iload_n 1, 1) := dgX1_isTaken_0 (45, (.iload_n 1, 1)) (List.mem_of_getElem? (i := 24) rfl)
theorem dX1_isTaken_46 : decode cX1_isTaken 46 = .ok (.invokevirtual 66, 3) := dgX1_isTaken_0 (46, (.invokevirtual 66, 3)) (List.mem_of_getElem? (i := 25) rfl)
theorem dX1_isTaken_49 : decode cX1_isTaken 49 = .ok (.iconst (-1), 1) := dgX1_isTaken_0 (49, (.iconst (-1), 1)) (List.mem_of_getElem? (i := 26) rfl)
theorem dX1_isTaken_50 : decode cX1_isTaken 50 = .ok (.if_icmp .ne 11, 3) := dgX1_isTaken_0 (50, (.if_icmp .ne 11, 3)) (List.mem_of_getElem? (i := 27) rfl)
theorem dX1_isTaken_53 : decode cX1_isTaken 53 = .ok (.aload_n 0, 1) := dgX1_isTaken_0 (53, (.aload_n 0, 1)) (List.mem_of_getElem? (i := 28) rfl)
theorem dX1_isTaken_54 : decode cX1_isTaken 54 = .ok (.getfield 19, 3) := dgX1_isTaken_0 (54, (.getfield 19, 3)) (List.mem_of_getElem? (i := 29) rfl)
theorem dX1_isTaken_57 : decode cX1_isTaken 57 = .ok (.iload_n 1, 1) := dgX1_isTaken_0 (57, (.iload_n 1, 1)) (List.mem_of_getElem? (i := 30) rfl)
theorem dX1_isTaken_58 : decode cX1_isTaken 58 = .ok (.if_icmp .ne 7, 3) := dgX1_isTaken_0 (58, (.if_icmp .ne 7, 3)) (List.mem_of_getElem? (i := 31) rfl)
theorem dX1_isTaken_61 : decode cX1_isTaken 61 = .ok (.iconst 1, 1) := dgX1_isTaken_0 (61, (.iconst 1, 1)) (List.mem_of_getElem? (i := 32) rfl)
theorem dX1_isTaken_62 : decode cX1_isTaken 62 = .ok (.goto 4, 3) := dgX1_isTaken_0 (62, (.goto 4, 3)) (List.mem_of_getElem? (i := 33) rfl)
theorem dX1_isTaken_65 : decode cX1_isTaken 65 = .ok (.iconst 0, 1) := dgX1_isTaken_0 (65, (.iconst 0, 1)) (List.mem_of_getElem? (i := 34) rfl)
theorem dX1_isTaken_66 : decode cX1_isTaken 66 = .ok (.ireturn, 1) := dgX1_isTaken_0 (66, (.ireturn, 1)) (List.mem_of_getElem? (i := 35) rfl)
theorem fl_X1_19 : Cond.fieldLink RX1 19 "LateGlass$House" "start" "I" ∈ tblG := tg 161 (by decide +kernel) (by decide +kernel)
theorem fl_X1_58 : Cond.fieldLink RX1 58 "LateGlass$House" "bodyBoards" "[J" ∈ tblG := tg 191 (by decide +kernel) (by decide +kernel)
set_option maxHeartbeats 4000000 in
set_option maxRecDepth 100000 in
theorem h_isTaken (l : Launch) (G : g5_G) (a_h a_p a_pn a_bb a_l a_g a_b a_s a_w : Nat) (sz : Nat) (e_le : Int32) (e_st : Int32) (e_fo : Int32) (e_lc : Int32) (e_p : Int32) (p_c : Int32) (e_wa : Int64) (e_gb : Int64) (f_p : Nat → Int32) (f_bb : Nat → Int64) (h_e_p : 0 ≤ e_p.toInt ∧ e_p.toInt ≤ 8) (h_p_c : 0 ≤ p_c.toInt ∧ p_c.toInt ≤ 63) : Met l yX1_isTaken (wsG yX1_isTaken cX1_isTaken 3 (some .boolean)) ({ frames := 2, cells := 0, slots := 0, locals := 45 }) (va_Pc [.ref a_h, .int p_c] (g5_P G [(a_h, (oc1 e_wa e_le e_st e_fo e_lc a_l a_g a_b a_s a_p a_w e_gb a_bb)), (a_p, (oc6 8 5 a_pn e_p)), (a_pn, (arI G 40 f_p)), (a_bb, (arJ G 24 f_bb))] sz)) (va_Qi (fun (r : Int32) (u : va_W) => (((∃ h : Nat, h < 24 ∧ onB (f_bb h) p_c.toInt = true) ∨ onB e_gb p_c.toInt = true ∨ (∃ r : Int, 0 ≤ r ∧ r < e_p.toInt ∧ tget f_p e_p.toInt 5 r (0 : Int32).toInt = p_c) ∨ e_st = p_c) ∧ (r = 1) ∧ (u = [(a_h, (oc1 e_wa e_le e_st e_fo e_lc a_l a_g a_b a_s a_p a_w e_gb a_bb)), (a_p, (oc6 8 5 a_pn e_p)), (a_pn, (arI G 40 f_p)), (a_bb, (arJ G 24 f_bb))])) ∨ (((∀ h : Nat, h < 24 → onB (f_bb h) p_c.toInt = false) ∧ onB e_gb p_c.toInt = false ∧ (∀ r : Int, 0 ≤ r → r < e_p.toInt → tget f_p e_p.toInt 5 r (0 : Int32).toInt ≠ p_c) ∧ e_st ≠ p_c) ∧ (r = 0) ∧ (u = [(a_h, (oc1 e_wa e_le e_st e_fo e_lc a_l a_g a_b a_s a_p a_w e_gb a_bb)), (a_p, (oc6 8 5 a_pn e_p)), (a_pn, (arI G 40 f_p)), (a_bb, (arJ G 24 f_bb))]))) (g5_B G (va_A [(a_h, (oc1 e_wa e_le e_st e_fo e_lc a_l a_g a_b a_s a_p a_w e_gb a_bb)), (a_p, (oc6 8 5 a_pn e_p)), (a_pn, (arI G 40 f_p)), (a_bb, (arJ G 24 f_bb))] sz)) (va_A [(a_h, (oc1 e_wa e_le e_st e_fo e_lc a_l a_g a_b a_s a_p a_w e_gb a_bb)), (a_p, (oc6 8 5 a_pn e_p)), (a_pn, (arI G 40 f_p)), (a_bb, (arJ G 24 f_bb))] sz)) 0 0 (va_A [(a_h, (oc1 e_wa e_le e_st e_fo e_lc a_l a_g a_b a_s a_p a_w e_gb a_bb)), (a_p, (oc6 8 5 a_pn e_p)), (a_pn, (arI G 40 f_p)), (a_bb, (arJ G 24 f_bb))] sz) := by
  refine Met.ofW (cc := cX1_isTaken) (maxL := 3) (ret := (some .boolean)) (by decide +kernel) rfl ?_
  intro p e s m args below meth c s₁ B hml hv
  obtain ⟨rfl, hsz, hP, hK, hD0, hN, hT⟩ := hv
  have hx := B.exec
  have hb := B.bytes
  have hr := B.returns
  have hts : ∀ w ∈ tblG, w.before _ s = true := fun w h => atoms_spec (ws := (wsG yX1_isTaken cX1_isTaken 3 (some .boolean))) B.pre w (List.mem_cons_of_mem _ h)
  have hown : s.vm.findClass RX1 = some m.cls := findClass_of_methodNamed B.named
  have hlocks := B.notSynchronized
  subst hsz
  have hD := hD0.self (sz := s.heap.size)
  generalize hAe : va_A [(a_h, (oc1 e_wa e_le e_st e_fo e_lc a_l a_g a_b a_s a_p a_w e_gb a_bb)), (a_p, (oc6 8 5 a_pn e_p)), (a_pn, (arI G 40 f_p)), (a_bb, (arJ G 24 f_bb))] s.heap.size = A at hD hT ⊢
  have hA : ∀ q : Nat, s.heap.size ≤ q → A q := fun q h => by rw [← hAe]; exact Or.inr h
  have hS : va_S A s.heap s.heap [] := va_S.rf
  replace hP : va_P G.1 vwCl [(a_h, (oc1 e_wa e_le e_st e_fo e_lc a_l a_g a_b a_s a_p a_w e_gb a_bb)), (a_p, (oc6 8 5 a_pn e_p)), (a_pn, (arI G 40 f_p)), (a_bb, (arJ G 24 f_bb))] s.heap := hP
  have hl := lv_entry ([.ref a_h, .int p_c]) (n := 3) (Nat.le_of_ble_eq_true rfl)
  rw [lg_entry_eq]
  generalize (lg_sl ([.ref a_h, .int p_c]) ++ List.replicate (3 - (lg_sl ([.ref a_h, .int p_c])).length) Slot.unset).toArray = ls at hl ⊢
  replace hl : lv_has ls 3 [(0, .ref a_h), (1, .int p_c)] := hl
  refine lv_iconst (v := 0) hx hb dX1_isTaken_0 (by decide +kernel) ?_
  refine lv_istore_n (lv' := [(2, .int 0), (0, .ref a_h), (1, .int p_c)]) hx hb dX1_isTaken_1 rfl hl (by decide +kernel) rfl ?_
  clear hl
  intro ls hl
  refine g5_loop (α := (Int32)) (fun (k_h : (Int32)) (ls : Array Slot) (H : Heap) (locs : List Loc) => lv_has ls 3 [(2, .int k_h), (0, .ref a_h), (1, .int p_c)] ∧ va_P G.1 vwCl [(a_h, (oc1 e_wa e_le e_st e_fo e_lc a_l a_g a_b a_s a_p a_w e_gb a_bb)), (a_p, (oc6 8 5 a_pn e_p)), (a_pn, (arI G 40 f_p)), (a_bb, (arJ G 24 f_bb))] H ∧ va_D A [(a_h, (oc1 e_wa e_le e_st e_fo e_lc a_l a_g a_b a_s a_p a_w e_gb a_bb)), (a_p, (oc6 8 5 a_pn e_p)), (a_pn, (arI G 40 f_p)), (a_bb, (arJ G 24 f_bb))] ∧ va_S A s.heap H locs ∧ (0 ≤ k_h.toInt ∧ k_h.toInt ≤ 24) ∧ (∀ h : Nat, (h : Int) < k_h.toInt → onB (f_bb h) p_c.toInt = false)) (fun (k_h : (Int32)) => Int.toNat (24 - k_h.toInt)) 0 ⟨lv_sub hl [0, 1, 2] rfl, hP, hD, hS, ⟨by decide, by decide⟩, fun h hh => absurd hh (by have z : (0 : Int32).toInt = 0 := (by decide +kernel); omega)⟩ ?_
  rintro k_h ls H locs ⟨hl, hP, hD, hS, (i_1 : 0 ≤ k_h.toInt ∧ k_h.toInt ≤ 24), (i_2 : ∀ h : Nat, (h : Int) < k_h.toInt → onB (f_bb h) p_c.toInt = false)⟩ ih_2_3
  replace hl : lv_has ls 3 [(2, .int k_h), (0, .ref a_h), (1, .int p_c)] := hl
  refine g5_rs [(a_h, (oc1 e_wa e_le e_st e_fo e_lc a_l a_g a_b a_s a_p a_w e_gb a_bb)), (a_p, (oc6 8 5 a_pn e_p)), (a_pn, (arI G 40 f_p)), (a_bb, (arJ G 24 f_bb))] hP hD ?_
  clear hP hD
  intro hP hD
  refine lv_iload_n hx hb dX1_isTaken_2 rfl (lv_at hl 0 rfl) ?_
  refine lv_bipush (v := 24) hx hb dX1_isTaken_3 (by decide +kernel) ?_
  refine lv_icmp_ge (tgt := 29) hx hb dX1_isTaken_5 (by decide +kernel) (fun c_4 => ?_) (fun c_4 => ?_)
  ·
    have i_4 : k_h.toInt ≥ 24 := g5_ge (a := k_h.toInt) (b := 24) rfl (by decide +kernel) c_4
    refine lv_aload_n hx hb dX1_isTaken_29 rfl (lv_at hl 1 rfl) ?_
    refine va_get (D := G.1) (ci := 1) (v := .long e_gb) (C := RX1) (T := TX1) (N := 13) hx hb hts inG_X1 hown hK hP 0 rfl rfl 11 (by decide +kernel) (hts _ fl_X1_55) (fun _ h9 => h9) rfl dX1_isTaken_30 ?_
    refine lv_iload_n hx hb dX1_isTaken_33 rfl (lv_at hl 2 rfl) ?_
    obtain ⟨hPc, hDc, hFc⟩ := g5_sub3 (wc := []) hP hD hS hA [] (by decide +kernel) rfl
    refine va_calli (va_runSN (As := [.long e_gb, .int p_c]) (rest := []) ⟨hx, hb, hml, hown, hts⟩ (k_isOn l G H.size p_c e_gb h_p_c) ⟨va_cnB 2 hts gW_X11_isOn rfl rfl rfl (hN.1 _ g5_nw_X1_62) (hts _ ini_X11) hs_X11_isOn ⟨Nat.le_of_ble_eq_true rfl, Nat.le_of_ble_eq_true rfl⟩, hts _ st_X11_isOn, trivial⟩ (g5_preS hPc hK hDc hN hT hS hFc) rfl rfl hl.1 rfl (lv_room (Nat.le_of_ble_eq_true rfl)) dX1_isTaken_34 ⟨Nat.le_of_ble_eq_true rfl, Nat.le_of_ble_eq_true rfl⟩) hS (fun q _ h => hFc q h) hFc (fun r u t H locs ht hvm hw hB hz1 hk1 hS => ?_)
    obtain ⟨hP1, hD1⟩ := hB
    have hP1 := g5_ht ht hP1
    rcases hw with ⟨(i_5 : onB e_gb p_c.toInt = false), rfl, rfl⟩ | ⟨(i_6 : onB e_gb p_c.toInt = true), rfl, rfl⟩
    ·
      have hJ9 := g5_same hP hk1
      clear hP hPc hDc hFc ht hvm hz1 hk1 hP1 hD1
      have hP := hJ9
      clear hJ9
      refine lv_if_ne (tgt := 61) hx hb dX1_isTaken_37 (by decide +kernel) (fun c_7 => ?_) (fun c_7 => ?_)
      ·
        exact absurd c_7 (by decide +kernel)
      ·
        refine lv_aload_n hx hb dX1_isTaken_40 rfl (lv_at hl 1 rfl) ?_
        refine va_get (D := G.1) (ci := 1) (v := .ref a_p) (C := RX1) (T := TX1) (N := 13) hx hb hts inG_X1 hown hK hP 0 rfl rfl 9 (by decide +kernel) (hts _ fl_X1_49) (fun _ h9 => h9) rfl dX1_isTaken_41 ?_
        refine lv_iconst (v := 0) hx hb dX1_isTaken_44 (by decide +kernel) ?_
        refine lv_iload_n hx hb dX1_isTaken_45 rfl (lv_at hl 2 rfl) ?_
        refine W.eq (g2 := F0 m 46 ls [.int p_c, .int 0, .ref a_p]) rfl ?_
        obtain ⟨hPc, hDc, hFc⟩ := g5_sub3 (wc := [(a_p, (oc6 8 5 a_pn e_p)), (a_pn, (arI G 40 f_p))]) hP hD hS hA [1, 2] (by decide +kernel) rfl
        refine va_calli (va_runV (As := [.int 0, .int p_c]) (rest := []) ⟨hx, hb, hml, hown, hts⟩ (t_find_P l G a_p a_pn H.size e_p 0 p_c f_p h_e_p) (cwV 2 hts gV_X1_66 rfl rfl rfl hv_X6_find ⟨Nat.le_of_ble_eq_true rfl, Nat.le_of_ble_eq_true rfl⟩) (g5_preV hPc hK hDc hN hT hS hFc (ci := 6) (q0 := 0) rfl rfl) rfl rfl hl.1 rfl (lv_room (Nat.le_of_ble_eq_true rfl)) dX1_isTaken_46 ⟨Nat.le_of_ble_eq_true rfl, Nat.le_of_ble_eq_true rfl⟩) hS (fun q _ h => hFc q h) hFc (fun r u t H locs ht hvm hw hB hz1 hk1 hS => ?_)
        obtain ⟨hP1, hD1⟩ := hB
        have hP1 := g5_ht ht hP1
        rcases hw with ⟨(i_8 : ∀ r : Int, 0 ≤ r → r < e_p.toInt → tget f_p e_p.toInt 5 r (0 : Int32).toInt ≠ p_c), rfl, rfl⟩ | ⟨z11, (i_9 : 0 ≤ z11.toInt ∧ z11.toInt < e_p.toInt), (i_10 : tget f_p e_p.toInt 5 z11.toInt (0 : Int32).toInt = p_c), y12, rfl⟩
        ·
          have hJ9 := va_join (wr := [(a_h, (oc1 e_wa e_le e_st e_fo e_lc a_l a_g a_b a_s a_p a_w e_gb a_bb)), (a_bb, (arJ G 24 f_bb))]) hP hD [1, 2] [0, 3] rfl rfl (by decide +kernel) (by decide +kernel) hk1 hFc hP1 hD1
          clear hP hD hPc hDc hFc ht hvm hz1 hk1 hP1 hD1
          obtain ⟨hP, hD⟩ := hJ9
          refine g5_rs [(a_h, (oc1 e_wa e_le e_st e_fo e_lc a_l a_g a_b a_s a_p a_w e_gb a_bb)), (a_bb, (arJ G 24 f_bb)), (a_p, (oc6 8 5 a_pn e_p)), (a_pn, (arI G 40 f_p))] hP hD ?_
          clear hP hD
          intro hP hD
          refine lv_iconst (v := (-1)) hx hb dX1_isTaken_49 (by decide +kernel) ?_
          refine lv_icmp_ne (tgt := 61) hx hb dX1_isTaken_50 (by decide +kernel) (fun c_13 => ?_) (fun c_13 => ?_)
          ·
            exact absurd c_13 (by decide +kernel)
          ·
            refine lv_aload_n hx hb dX1_isTaken_53 rfl (lv_at hl 1 rfl) ?_
            refine va_get (D := G.1) (ci := 1) (v := .int e_st) (C := RX1) (T := TX1) (N := 13) hx hb hts inG_X1 hown hK hP 0 rfl rfl 2 (by decide +kernel) (hts _ fl_X1_19) (fun _ h9 => h9) rfl dX1_isTaken_54 ?_
            refine lv_iload_n hx hb dX1_isTaken_57 rfl (lv_at hl 2 rfl) ?_
            refine lv_icmp_ne (tgt := 65) hx hb dX1_isTaken_58 (by decide +kernel) (fun c_14 => ?_) (fun c_14 => ?_)
            ·
              have n_14 : gNe (e_st.toInt) (p_c.toInt) := g5_ne (a := e_st.toInt) (b := p_c.toInt) rfl rfl c_14
              refine lv_iconst (v := 0) hx hb dX1_isTaken_65 (by decide +kernel) ?_
              exact W.zret (v := 0) hx hb hr rfl (fun t ht hW => ⟨⟨0, [(a_h, (oc1 e_wa e_le e_st e_fo e_lc a_l a_g a_b a_s a_p a_w e_gb a_bb)), (a_p, (oc6 8 5 a_pn e_p)), (a_pn, (arI G 40 f_p)), (a_bb, (arJ G 24 f_bb))], rfl, Or.inr (⟨⟨fun h hh => i_2 h (by omega), i_5, i_8, fun q => absurd (congrArg Int32.toInt q) n_14⟩, rfl, rfl⟩), by rw [ht]; exact hP.sub [0, 2, 3, 1] rfl, hD.sub [0, 2, 3, 1] (by decide +kernel) rfl⟩, hS.F ht⟩) hS.2.2 dX1_isTaken_66
            ·
              have i_14 : e_st.toInt = p_c.toInt := g5_neN (a := e_st.toInt) (b := p_c.toInt) rfl rfl c_14
              refine lv_iconst (v := 1) hx hb dX1_isTaken_61 (by decide +kernel) ?_
              refine lv_goto (tgt := 66) hx hb dX1_isTaken_62 (by decide +kernel) ?_
              exact W.zret (v := 1) hx hb hr rfl (fun t ht hW => ⟨⟨1, [(a_h, (oc1 e_wa e_le e_st e_fo e_lc a_l a_g a_b a_s a_p a_w e_gb a_bb)), (a_p, (oc6 8 5 a_pn e_p)), (a_pn, (arI G 40 f_p)), (a_bb, (arJ G 24 f_bb))], rfl, Or.inl (⟨Or.inr (Or.inr (Or.inr (Int32.toInt_inj.mp (by omega)))), rfl, rfl⟩), by rw [ht]; exact hP.sub [0, 2, 3, 1] rfl, hD.sub [0, 2, 3, 1] (by decide +kernel) rfl⟩, hS.F ht⟩) hS.2.2 dX1_isTaken_66
        ·
          have hJ9 := va_join (wr := [(a_h, (oc1 e_wa e_le e_st e_fo e_lc a_l a_g a_b a_s a_p a_w e_gb a_bb)), (a_bb, (arJ G 24 f_bb))]) hP hD [1, 2] [0, 3] rfl rfl (by decide +kernel) (by decide +kernel) hk1 hFc hP1 hD1
          clear hP hD hPc hDc hFc ht hvm hz1 hk1 hP1 hD1
          obtain ⟨hP, hD⟩ := hJ9
          refine g5_rs [(a_h, (oc1 e_wa e_le e_st e_fo e_lc a_l a_g a_b a_s a_p a_w e_gb a_bb)), (a_bb, (arJ G 24 f_bb)), (a_p, (oc6 8 5 a_pn e_p)), (a_pn, (arI G 40 f_p))] hP hD ?_
          clear hP hD
          intro hP hD
          refine g5_ti (v := z11) y12 ?_
          refine lv_iconst (v := (-1)) hx hb dX1_isTaken_49 (by decide +kernel) ?_
          refine lv_icmp_ne (tgt := 61) hx hb dX1_isTaken_50 (by decide +kernel) (fun c_15 => ?_) (fun c_15 => ?_)
          ·
            have n_15 : gNe (z11.toInt) ((-1)) := g5_ne (a := z11.toInt) (b := (-1)) rfl (by decide +kernel) c_15
            refine lv_iconst (v := 1) hx hb dX1_isTaken_61 (by decide +kernel) ?_
            refine lv_goto (tgt := 66) hx hb dX1_isTaken_62 (by decide +kernel) ?_
            exact W.zret (v := 1) hx hb hr rfl (fun t ht hW => ⟨⟨1, [(a_h, (oc1 e_wa e_le e_st e_fo e_lc a_l a_g a_b a_s a_p a_w e_gb a_bb)), (a_p, (oc6 8 5 a_pn e_p)), (a_pn, (arI G 40 f_p)), (a_bb, (arJ G 24 f_bb))], rfl, Or.inl (⟨Or.inr (Or.inr (Or.inl ⟨z11.toInt, i_9.1, i_9.2, i_10⟩)), rfl, rfl⟩), by rw [ht]; exact hP.sub [0, 2, 3, 1] rfl, hD.sub [0, 2, 3, 1] (by decide +kernel) rfl⟩, hS.F ht⟩) hS.2.2 dX1_isTaken_66
          ·
            have i_15 : z11.toInt = (-1) := g5_neN (a := z11.toInt) (b := (-1)) rfl (by decide +kernel) c_15
            omega
    ·
      have hJ9 := g5_same hP hk1
      clear hP hPc hDc hFc ht hvm hz1 hk1 hP1 hD1
      have hP := hJ9
      clear hJ9
      refine lv_if_ne (tgt := 61) hx hb dX1_isTaken_37 (by decide +kernel) (fun c_16 => ?_) (fun c_16 => ?_)
      ·
        refine lv_iconst (v := 1) hx hb dX1_isTaken_61 (by decide +kernel) ?_
        refine lv_goto (tgt := 66) hx hb dX1_isTaken_62 (by decide +kernel) ?_
        exact W.zret (v := 1) hx hb hr rfl (fun t ht hW => ⟨⟨1, [(a_h, (oc1 e_wa e_le e_st e_fo e_lc a_l a_g a_b a_s a_p a_w e_gb a_bb)), (a_p, (oc6 8 5 a_pn e_p)), (a_pn, (arI G 40 f_p)), (a_bb, (arJ G 24 f_bb))], rfl, Or.inl (⟨Or.inr (Or.inl i_6), rfl, rfl⟩), by rw [ht]; exact hP.sub [0, 1, 2, 3] rfl, hD.sub [0, 1, 2, 3] (by decide +kernel) rfl⟩, hS.F ht⟩) hS.2.2 dX1_isTaken_66
      ·
        exact absurd c_16 (by decide +kernel)
  ·
    have i_4 : k_h.toInt < 24 := g5_geN (a := k_h.toInt) (b := 24) rfl (by decide +kernel) c_4
    refine lv_aload_n hx hb dX1_isTaken_8 rfl (lv_at hl 1 rfl) ?_
    refine va_get (D := G.1) (ci := 1) (v := .ref a_bb) (C := RX1) (T := TX1) (N := 13) hx hb hts inG_X1 hown hK hP 0 rfl rfl 12 (by decide +kernel) (hts _ fl_X1_58) (fun _ h9 => h9) rfl dX1_isTaken_9 ?_
    refine lv_iload_n hx hb dX1_isTaken_12 rfl (lv_at hl 0 rfl) ?_
    refine va_lald hx hb hK hP 3 1 rfl rfl (i := k_h) (vp_in_iff.mpr ⟨by omega, by omega⟩) dX1_isTaken_13 ?_
    refine W.eq (g2 := F0 m 14 ls [.long (f_bb k_h.toNatClampNeg)]) rfl ?_
    refine lv_iload_n hx hb dX1_isTaken_14 rfl (lv_at hl 2 rfl) ?_
    obtain ⟨hPc, hDc, hFc⟩ := g5_sub3 (wc := []) hP hD hS hA [] (by decide +kernel) rfl
    refine va_calli (va_runSN (As := [.long (f_bb k_h.toNatClampNeg), .int p_c]) (rest := []) ⟨hx, hb, hml, hown, hts⟩ (k_isOn l G H.size p_c (f_bb k_h.toNatClampNeg) h_p_c) ⟨va_cnB 2 hts gW_X11_isOn rfl rfl rfl (hN.1 _ g5_nw_X1_62) (hts _ ini_X11) hs_X11_isOn ⟨Nat.le_of_ble_eq_true rfl, Nat.le_of_ble_eq_true rfl⟩, hts _ st_X11_isOn, trivial⟩ (g5_preS hPc hK hDc hN hT hS hFc) rfl rfl hl.1 rfl (lv_room (Nat.le_of_ble_eq_true rfl)) dX1_isTaken_15 ⟨Nat.le_of_ble_eq_true rfl, Nat.le_of_ble_eq_true rfl⟩) hS (fun q _ h => hFc q h) hFc (fun r u t H locs ht hvm hw hB hz1 hk1 hS => ?_)
    obtain ⟨hP1, hD1⟩ := hB
    have hP1 := g5_ht ht hP1
    rcases hw with ⟨(i_17 : onB (f_bb k_h.toNatClampNeg) p_c.toInt = false), rfl, rfl⟩ | ⟨(i_18 : onB (f_bb k_h.toNatClampNeg) p_c.toInt = true), rfl, rfl⟩
    ·
      have hJ9 := g5_same hP hk1
      clear hP hPc hDc hFc ht hvm hz1 hk1 hP1 hD1
      have hP := hJ9
      clear hJ9
      refine lv_if_eq (tgt := 23) hx hb dX1_isTaken_18 (by decide +kernel) (fun c_19 => ?_) (fun c_19 => ?_)
      ·
        refine lv_iinc (v := (k_h + 1)) (lv' := [(2, .int (k_h + 1)), (0, .ref a_h), (1, .int p_c)]) hx hb dX1_isTaken_23 hl (k := 0) rfl rfl (by decide +kernel) rfl ?_
        clear hl
        intro ls hl
        have t_20 : (k_h + 1).toInt = k_h.toInt + 1 := g5_iadd (a := k_h.toInt) (b := 1) rfl (by decide +kernel) (by omega) (by omega)
        refine lv_goto (tgt := 2) hx hb dX1_isTaken_26 (by decide +kernel) ?_
        exact ih_2_3 (k_h + 1) ls H locs (show Int.toNat (24 - (k_h + 1).toInt) < Int.toNat (24 - k_h.toInt) from g_up (show k_h.toInt < (k_h + 1).toInt by omega) (show k_h.toInt < 24 by omega)) ⟨lv_sub hl [0, 1, 2] rfl, hP, hD, hS, ⟨by omega, by omega⟩, fun h hh => by rcases (show (h : Int) < k_h.toInt ∨ h = k_h.toNatClampNeg by rw [g5_clamp]; omega) with q | q; exact i_2 h q; rw [q]; exact i_17⟩
      ·
        exact absurd c_19 (by decide +kernel)
    ·
      have hJ9 := g5_same hP hk1
      clear hP hPc hDc hFc ht hvm hz1 hk1 hP1 hD1
      have hP := hJ9
      clear hJ9
      refine lv_if_eq (tgt := 23) hx hb dX1_isTaken_18 (by decide +kernel) (fun c_21 => ?_) (fun c_21 => ?_)
      ·
        exact absurd c_21 (by decide +kernel)
      ·
        refine lv_iconst (v := 1) hx hb dX1_isTaken_21 (by decide +kernel) ?_
        exact W.zret (v := 1) hx hb hr rfl (fun t ht hW => ⟨⟨1, [(a_h, (oc1 e_wa e_le e_st e_fo e_lc a_l a_g a_b a_s a_p a_w e_gb a_bb)), (a_p, (oc6 8 5 a_pn e_p)), (a_pn, (arI G 40 f_p)), (a_bb, (arJ G 24 f_bb))], rfl, Or.inl (⟨Or.inl ⟨k_h.toNatClampNeg, by rw [g5_clamp]; omega, i_18⟩, rfl, rfl⟩), by rw [ht]; exact hP.sub [0, 1, 2, 3] rfl, hD.sub [0, 1, 2, 3] (by decide +kernel) rfl⟩, hS.F ht⟩) hS.2.2 dX1_isTaken_22
theorem dgX1_countSeen_0 : ∀ r ∈ ([(0, (.iconst 0, 1)), (1, (.istore_n 1, 1)), (2, (.iconst 0, 1)), (3, (.istore_n 2, 1)), (4, (.iload_n 2, 1)), (5, (.aload_n 0, 1)), (6, (.getfield 46, 3)), (9, (.getfield 74, 3)), (12, (.if_icmp .ge 21, 3)), (15, (.iload_n 1, 1)), (16, (.aload_n 0, 1)), (17, (.getfield 46, 3)), (20, (.iload_n 2, 1)), (21, (.iconst 3, 1)), (22, (.invokevirtual 77, 3)), (25, (.iadd, 1)), (26, (.istore_n 1, 1)), (27, (.iinc 2 1, 3)), (30, (.goto (-26), 3)), (33, (.iload_n 1, 1)), (34, (.ireturn, 1))] : List (Nat × (Instr × Nat))), decode cX1_countSeen r.1 = .ok r.2 := by decide +kernel
theorem dX1_countSeen_0 : decode cX1_countSeen 0 = .ok (.iconst 0, 1) := dgX1_countSeen_0 (0, (.iconst 0, 1)) (List.mem_of_getElem? (i := 0) rfl)
theorem dX1_countSeen_1 : decode cX1_countSeen 1 = .ok (.istore_n 1, 1) := dgX1_countSeen_0 (1, (.istore_n 1, 1)) (List.mem_of_getElem? (i := 1) rfl)
theorem dX1_countSeen_2 : decode cX1_countSeen 2 = .ok (.iconst 0, 1) := dgX1_countSeen_0 (2, (.iconst 0, 1)) (List.mem_of_getElem? (i := 2) rfl)
theorem dX1_countSeen_3 : decode cX1_countSeen 3 = .ok (.istore_n 2, 1) := dgX1_countSeen_0 (3, (.istore_n 2, 1)) (List.mem_of_getElem? (i := 3) rfl)
theorem dX1_countSeen_4 : decode cX1_countSeen 4 = .ok (.iload_n 2, 1) := dgX1_countSeen_0 (4, (.iload_n 2, 1)) (List.mem_of_getElem? (i := 4) rfl)
theorem dX1_countSeen_5 : decode cX1_countSeen 5 = .ok (.aload_n 0, 1) := dgX1_countSeen_0 (5, (.aload_n 0, 1)) (List.mem_of_getElem? (i := 5) rfl)
theorem dX1_countSeen_6 : decode cX1_countSeen 6 = .ok (.getfield 46, 3) := dgX1_countSeen_0 (6, (.getfield 46, 3)) (List.mem_of_getElem? (i := 6) rfl)
theorem dX1_countSeen_9 : decode cX1_countSeen 9 = .ok (.getfield 74, 3) := dgX1_countSeen_0 (9, (.getfield 74, 3)) (List.mem_of_getElem? (i := 7) rfl)
theorem dX1_countSeen_12 : decode cX1_countSeen 12 = .ok (.if_icmp .ge 21, 3) := dgX1_countSeen_0 (12, (.if_icmp .ge 21, 3)) (List.mem_of_getElem? (i := 8) rfl)
theorem dX1_countSeen_15 : decode cX1_countSeen 15 = .ok (.iload_n 1, 1) := dgX1_countSeen_0 (15, (.iload_n 1, 1)) (List.mem_of_getElem? (i := 9) rfl)
theorem dX1_countSeen_16 : decode cX1_countSeen 16 = .ok (.aload_n 0, 1) := dgX1_countSeen_0 (16, (.aload_n 0, 1)) (List.mem_of_getElem? (i := 10) rfl)
theorem dX1_countSeen_17 : decode cX1_countSeen 17 = .ok (.getfield 46, 3) := dgX1_countSeen_0 (17, (.getfield 46, 3)) (List.mem_of_getElem? (i := 11) rfl)
theorem dX1_countSeen_20 : decode cX1_countSeen 20 = .ok (.iload_n 2, 1) := dgX1_countSeen_0 (20, (.iload_n 2, 1)) (List.mem_of_getElem? (i := 12) rfl)
theorem dX1_countSeen_21 : decode cX1_countSeen 21 = .ok (.iconst 3, 1) := dgX1_countSeen_0 (21, (.iconst 3, 1)) (List.mem_of_getElem? (i := 13) rfl)
theorem dX1_countSeen_22 : decode cX1_countSeen 22 = .ok (.invokevirtual 77, 3) := dgX1_countSeen_0 (22, (.invokevirtual 77, 3)) (List.mem_of_getElem? (i := 14) rfl)
theorem dX1_countSeen_25 : decode cX1_countSeen 25 = .ok (.iadd, 1) := dgX1_countSeen_0 (25, (.iadd, 1)) (List.mem_of_getElem? (i := 15) rfl)
theorem dX1_countSeen_26 : decode cX1_countSeen 26 = .ok (.istore_n 1, 1) := dgX1_countSeen_0 (26, (.istore_n 1, 1)) (List.mem_of_getElem? (i := 16) rfl)
theorem dX1_countSeen_27 : decode cX1_countSeen 27 = .ok (.iinc 2 1, 3) := dgX1_countSeen_0 (27, (.iinc 2 1, 3)) (List.mem_of_getElem? (i := 17) rfl)
theorem dX1_countSeen_30 : decode cX1_countSeen 30 = .ok (.goto (-26), 3) := dgX1_countSeen_0 (30, (.goto (-26), 3)) (List.mem_of_getElem? (i := 18) rfl)
theorem dX1_countSeen_33 : decode cX1_countSeen 33 = .ok (.iload_n 1, 1) := dgX1_countSeen_0 (33, (.iload_n 1, 1)) (List.mem_of_getElem? (i := 19) rfl)
theorem dX1_countSeen_34 : decode cX1_countSeen 34 = .ok (.ireturn, 1) := dgX1_countSeen_0 (34, (.ireturn, 1)) (List.mem_of_getElem? (i := 20) rfl)
theorem fl_X1_46 : Cond.fieldLink RX1 46 "LateGlass$House" "sightings" "LLateGlass$Table;" ∈ tblG := tg 178 (by decide +kernel) (by decide +kernel)
theorem fl_X1_74 : Cond.fieldLink RX1 74 "LateGlass$Table" "rows" "I" ∈ tblG := tg 140 (by decide +kernel) (by decide +kernel)
theorem ml_X1_77 : Cond.methodLink RX1 77 yX6_get ∈ tblG := tg 603 (by decide +kernel) (by decide +kernel)
theorem gV_X1_77 : GoodIn tblG (wsV RX1 77 RX6 yX6_get (wsG yX6_get cX6_get 3 (some .int))) := tgV ml_X1_77 im_X6_get se_X6_get ini_X6 gW_X6_get
set_option maxHeartbeats 4000000 in
set_option maxRecDepth 100000 in
theorem h_countSeen (l : Launch) (G : g5_G) (a_h a_s a_sn a_l a_g a_b a_p a_w a_bb : Nat) (sz : Nat) (e_le : Int32) (e_st : Int32) (e_fo : Int32) (e_lc : Int32) (e_s : Int32) (e_wa : Int64) (e_gb : Int64) (f_s : Nat → Int32) (h_e_s : 0 ≤ e_s.toInt ∧ e_s.toInt ≤ 10) (e_h : ∀ r : Int, 0 ≤ r → r < e_s.toInt → 0 ≤ (tget f_s e_s.toInt 4 r (3 : Int32).toInt).toInt ∧ (tget f_s e_s.toInt 4 r (3 : Int32).toInt).toInt ≤ 1) : Met l yX1_countSeen (wsG yX1_countSeen cX1_countSeen 3 (some .int)) ({ frames := 1, cells := 0, slots := 0, locals := 22 }) (va_Pc [.ref a_h] (g5_P G [(a_h, (oc1 e_wa e_le e_st e_fo e_lc a_l a_g a_b a_s a_p a_w e_gb a_bb)), (a_s, (oc6 10 4 a_sn e_s)), (a_sn, (arI G 40 f_s))] sz)) (va_Qi (fun (r : Int32) (u : va_W) => (∃ (o_r : Int32), (0 ≤ o_r.toInt ∧ o_r.toInt ≤ 10) ∧ (o_r.toInt = snS f_s e_s.toInt e_s.toInt.toNat) ∧ (r = o_r) ∧ (u = [(a_h, (oc1 e_wa e_le e_st e_fo e_lc a_l a_g a_b a_s a_p a_w e_gb a_bb)), (a_s, (oc6 10 4 a_sn e_s)), (a_sn, (arI G 40 f_s))]))) (g5_B G (va_A [(a_h, (oc1 e_wa e_le e_st e_fo e_lc a_l a_g a_b a_s a_p a_w e_gb a_bb)), (a_s, (oc6 10 4 a_sn e_s)), (a_sn, (arI G 40 f_s))] sz)) (va_A [(a_h, (oc1 e_wa e_le e_st e_fo e_lc a_l a_g a_b a_s a_p a_w e_gb a_bb)), (a_s, (oc6 10 4 a_sn e_s)), (a_sn, (arI G 40 f_s))] sz)) 0 0 (va_A [(a_h, (oc1 e_wa e_le e_st e_fo e_lc a_l a_g a_b a_s a_p a_w e_gb a_bb)), (a_s, (oc6 10 4 a_sn e_s)), (a_sn, (arI G 40 f_s))] sz) := by
  refine Met.ofW (cc := cX1_countSeen) (maxL := 3) (ret := (some .int)) (by decide +kernel) rfl ?_
  intro p e s m args below meth c s₁ B hml hv
  obtain ⟨rfl, hsz, hP, hK, hD0, hN, hT⟩ := hv
  have hx := B.exec
  have hb := B.bytes
  have hr := B.returns
  have hts : ∀ w ∈ tblG, w.before _ s = true := fun w h => atoms_spec (ws := (wsG yX1_countSeen cX1_countSeen 3 (some .int))) B.pre w (List.mem_cons_of_mem _ h)
  have hown : s.vm.findClass RX1 = some m.cls := findClass_of_methodNamed B.named
  have hlocks := B.notSynchronized
  subst hsz
  have hD := hD0.self (sz := s.heap.size)
  generalize hAe : va_A [(a_h, (oc1 e_wa e_le e_st e_fo e_lc a_l a_g a_b a_s a_p a_w e_gb a_bb)), (a_s, (oc6 10 4 a_sn e_s)), (a_sn, (arI G 40 f_s))] s.heap.size = A at hD hT ⊢
  have hA : ∀ q : Nat, s.heap.size ≤ q → A q := fun q h => by rw [← hAe]; exact Or.inr h
  have hS : va_S A s.heap s.heap [] := va_S.rf
  replace hP : va_P G.1 vwCl [(a_h, (oc1 e_wa e_le e_st e_fo e_lc a_l a_g a_b a_s a_p a_w e_gb a_bb)), (a_s, (oc6 10 4 a_sn e_s)), (a_sn, (arI G 40 f_s))] s.heap := hP
  have hl := lv_entry ([.ref a_h]) (n := 3) (Nat.le_of_ble_eq_true rfl)
  rw [lg_entry_eq]
  generalize (lg_sl ([.ref a_h]) ++ List.replicate (3 - (lg_sl ([.ref a_h])).length) Slot.unset).toArray = ls at hl ⊢
  replace hl : lv_has ls 3 [(0, .ref a_h)] := hl
  refine lv_iconst (v := 0) hx hb dX1_countSeen_0 (by decide +kernel) ?_
  refine lv_istore_n (lv' := [(1, .int 0), (0, .ref a_h)]) hx hb dX1_countSeen_1 rfl hl (by decide +kernel) rfl ?_
  clear hl
  intro ls hl
  refine lv_iconst (v := 0) hx hb dX1_countSeen_2 (by decide +kernel) ?_
  refine lv_istore_n (lv' := [(2, .int 0), (1, .int 0), (0, .ref a_h)]) hx hb dX1_countSeen_3 rfl hl (by decide +kernel) rfl ?_
  clear hl
  intro ls hl
  refine g5_loop (α := (Int32) × (Int32)) (fun (q : (Int32) × (Int32)) (ls : Array Slot) (H : Heap) (locs : List Loc) => match q with | (k_i, k_s) => lv_has ls 3 [(1, .int k_s), (2, .int k_i), (0, .ref a_h)] ∧ va_P G.1 vwCl [(a_h, (oc1 e_wa e_le e_st e_fo e_lc a_l a_g a_b a_s a_p a_w e_gb a_bb)), (a_s, (oc6 10 4 a_sn e_s)), (a_sn, (arI G 40 f_s))] H ∧ va_D A [(a_h, (oc1 e_wa e_le e_st e_fo e_lc a_l a_g a_b a_s a_p a_w e_gb a_bb)), (a_s, (oc6 10 4 a_sn e_s)), (a_sn, (arI G 40 f_s))] ∧ va_S A s.heap H locs ∧ (0 ≤ k_i.toInt ∧ k_i.toInt ≤ 10) ∧ (0 ≤ k_s.toInt ∧ k_s.toInt ≤ 10) ∧ (k_i.toInt ≤ e_s.toInt) ∧ (k_s.toInt ≤ k_i.toInt) ∧ (k_s.toInt = snS f_s e_s.toInt k_i.toInt.toNat)) (fun (q : (Int32) × (Int32)) => match q with | (k_i, k_s) => Int.toNat (10 - k_i.toInt)) (0, 0) ⟨lv_sub hl [1, 0, 2] rfl, hP, hD, hS, ⟨by decide, by decide⟩, ⟨by decide, by decide⟩, by have z0 : (0 : Int32).toInt = 0 := (by decide +kernel); omega, Int.le_refl _, h_snS0⟩ ?_
  rintro ⟨k_i, k_s⟩ ls H locs ⟨hl, hP, hD, hS, (i_1 : 0 ≤ k_i.toInt ∧ k_i.toInt ≤ 10), (i_2 : 0 ≤ k_s.toInt ∧ k_s.toInt ≤ 10), (i_3 : k_i.toInt ≤ e_s.toInt), (i_4 : k_s.toInt ≤ k_i.toInt), (i_5 : k_s.toInt = snS f_s e_s.toInt k_i.toInt.toNat)⟩ ih_4_6
  replace hl : lv_has ls 3 [(1, .int k_s), (2, .int k_i), (0, .ref a_h)] := hl
  refine g5_rs [(a_h, (oc1 e_wa e_le e_st e_fo e_lc a_l a_g a_b a_s a_p a_w e_gb a_bb)), (a_s, (oc6 10 4 a_sn e_s)), (a_sn, (arI G 40 f_s))] hP hD ?_
  clear hP hD
  intro hP hD
  refine lv_iload_n hx hb dX1_countSeen_4 rfl (lv_at hl 1 rfl) ?_
  refine lv_aload_n hx hb dX1_countSeen_5 rfl (lv_at hl 2 rfl) ?_
  refine va_get (D := G.1) (ci := 1) (v := .ref a_s) (C := RX1) (T := TX1) (N := 13) hx hb hts inG_X1 hown hK hP 0 rfl rfl 8 (by decide +kernel) (hts _ fl_X1_46) (fun _ h9 => h9) rfl dX1_countSeen_6 ?_
  refine va_get (D := G.1) (ci := 6) (v := .int e_s) (C := RX6) (T := TX6) (N := 4) hx hb hts inG_X6 hown hK hP 1 rfl rfl 3 (by decide +kernel) (hts _ fl_X1_74) (fun _ h9 => h9) rfl dX1_countSeen_9 ?_
  refine W.eq (g2 := F0 m 12 ls [.int e_s, .int k_i]) rfl ?_
  refine lv_icmp_ge (tgt := 33) hx hb dX1_countSeen_12 (by decide +kernel) (fun c_7 => ?_) (fun c_7 => ?_)
  ·
    have i_7 : k_i.toInt ≥ e_s.toInt := g5_ge (a := k_i.toInt) (b := e_s.toInt) rfl rfl c_7
    refine lv_iload_n hx hb dX1_countSeen_33 rfl (lv_at hl 0 rfl) ?_
    exact W.iret (v := k_s) hx hb hr (fun t ht hW => ⟨⟨k_s, [(a_h, (oc1 e_wa e_le e_st e_fo e_lc a_l a_g a_b a_s a_p a_w e_gb a_bb)), (a_s, (oc6 10 4 a_sn e_s)), (a_sn, (arI G 40 f_s))], rfl, ⟨k_s, i_2, by rw [i_5, show k_i.toInt = e_s.toInt by omega], rfl, rfl⟩, by rw [ht]; exact hP.sub [0, 1, 2] rfl, hD.sub [0, 1, 2] (by decide +kernel) rfl⟩, hS.F ht⟩) hS.2.2 dX1_countSeen_34
  ·
    have i_7 : k_i.toInt < e_s.toInt := g5_geN (a := k_i.toInt) (b := e_s.toInt) rfl rfl c_7
    refine lv_iload_n hx hb dX1_countSeen_15 rfl (lv_at hl 0 rfl) ?_
    refine lv_aload_n hx hb dX1_countSeen_16 rfl (lv_at hl 2 rfl) ?_
    refine va_get (D := G.1) (ci := 1) (v := .ref a_s) (C := RX1) (T := TX1) (N := 13) hx hb hts inG_X1 hown hK hP 0 rfl rfl 8 (by decide +kernel) (hts _ fl_X1_46) (fun _ h9 => h9) rfl dX1_countSeen_17 ?_
    refine lv_iload_n hx hb dX1_countSeen_20 rfl (lv_at hl 1 rfl) ?_
    refine W.eq (g2 := F0 m 21 ls [.int k_i, .ref a_s, .int k_s]) rfl ?_
    refine lv_iconst (v := 3) hx hb dX1_countSeen_21 (by decide +kernel) ?_
    obtain ⟨hPc, hDc, hFc⟩ := g5_sub3 (wc := [(a_s, (oc6 10 4 a_sn e_s)), (a_sn, (arI G 40 f_s))]) hP hD hS hA [1, 2] (by decide +kernel) rfl
    refine va_calli (va_runV (As := [.int k_i, .int 3]) (rest := [.int k_s]) ⟨hx, hb, hml, hown, hts⟩ (t_get_S l G a_s a_sn H.size e_s k_i 3 f_s h_e_s) (cwV 2 hts gV_X1_77 rfl rfl rfl hv_X6_get ⟨Nat.le_of_ble_eq_true rfl, Nat.le_of_ble_eq_true rfl⟩) (g5_preV hPc hK hDc hN hT hS hFc (ci := 6) (q0 := 0) rfl rfl) rfl rfl hl.1 rfl (lv_room (Nat.le_of_ble_eq_true rfl)) dX1_countSeen_22 ⟨Nat.le_of_ble_eq_true rfl, Nat.le_of_ble_eq_true rfl⟩) hS (fun q _ h => hFc q h) hFc (fun r u t H locs ht hvm hw hB hz1 hk1 hS => ?_)
    obtain ⟨hP1, hD1⟩ := hB
    have hP1 := g5_ht ht hP1
    obtain ⟨z9, (i_8 : z9 = tget f_s e_s.toInt 4 k_i.toInt (3 : Int32).toInt), y10, rfl⟩ := hw
    have hJ9 := va_join (wr := [(a_h, (oc1 e_wa e_le e_st e_fo e_lc a_l a_g a_b a_s a_p a_w e_gb a_bb))]) hP hD [1, 2] [0] rfl rfl (by decide +kernel) (by decide +kernel) hk1 hFc hP1 hD1
    clear hP hD hPc hDc hFc ht hvm hz1 hk1 hP1 hD1
    obtain ⟨hP, hD⟩ := hJ9
    refine g5_rs [(a_h, (oc1 e_wa e_le e_st e_fo e_lc a_l a_g a_b a_s a_p a_w e_gb a_bb)), (a_s, (oc6 10 4 a_sn e_s)), (a_sn, (arI G 40 f_s))] hP hD ?_
    clear hP hD
    intro hP hD
    refine g5_ti (v := z9) y10 ?_
    have hz_11 : 0 ≤ z9.toInt ∧ z9.toInt ≤ 1 := by rw [i_8]; exact e_h k_i.toInt (by omega) (by omega)
    refine lv_iadd hx hb dX1_countSeen_25 ?_
    have t_12 : (k_s + z9).toInt = k_s.toInt + z9.toInt := g5_iadd (a := k_s.toInt) (b := z9.toInt) (by rfl) (by rfl) (by omega) (by omega)
    refine lv_istore_n (lv' := [(1, .int (k_s + z9)), (2, .int k_i), (0, .ref a_h)]) hx hb dX1_countSeen_26 rfl hl (by decide +kernel) rfl ?_
    clear hl
    intro ls hl
    refine lv_iinc (v := (k_i + 1)) (lv' := [(2, .int (k_i + 1)), (1, .int (k_s + z9)), (0, .ref a_h)]) hx hb dX1_countSeen_27 hl (k := 1) rfl rfl (by decide +kernel) rfl ?_
    clear hl
    intro ls hl
    have t_13 : (k_i + 1).toInt = k_i.toInt + 1 := g5_iadd (a := k_i.toInt) (b := 1) rfl (by decide +kernel) (by omega) (by omega)
    refine W.eq (g2 := F0 m 30 ls []) rfl ?_
    refine lv_goto (tgt := 4) hx hb dX1_countSeen_30 (by decide +kernel) ?_
    exact ih_4_6 ((k_i + 1), (k_s + z9)) ls H locs (show Int.toNat (10 - (k_i + 1).toInt) < Int.toNat (10 - k_i.toInt) from g_up (show k_i.toInt < (k_i + 1).toInt by omega) (show k_i.toInt < 10 by omega)) ⟨lv_sub hl [1, 0, 2] rfl, hP, hD, hS, ⟨by omega, by omega⟩, ⟨by omega, by omega⟩, by omega, by omega, h_snS i_5 i_8 e_h (by omega) (by omega) (by omega)⟩
theorem dgX1_put_0 : ∀ r ∈ ([(0, (.iload_n 2, 1)), (1, (.istore 5, 2)), (3, (.iload 5, 2)), (5, (.iload_n 3, 1)), (6, (.if_icmp .gt 86, 3)), (9, (.aload_n 0, 1)), (10, (.getfield 43, 3)), (13, (.iload_n 1, 1)), (14, (.iload 5, 2)), (16, (.iload 4, 2)), (18, (.invokevirtual 70, 3)), (21, (.lconst 0, 1)), (22, (.lstore 6, 2)), (24, (.iconst 0, 1)), (25, (.istore 8, 2)), (27, (.iload 8, 2)), (29, (.aload_n 0, 1)), (30, (.getfield 43, 3)), (33, (.getfield 74, 3)), (36, (.if_icmp .ge 41, 3)), (39, (.aload_n 0, 1)), (40, (.getfield 43, 3)), (43, (.iload 8, 2)), (45, (.iload 5, 2)), (47, (.invokevirtual 77, 3)), (50, (.istore 9, 2)), (52, (.lload 6, 2)), (54, (.iload 9, 2)), (56, (.iconst (-1), 1)), (57, (.if_icmp .ne 7, 3)), (60, (.lconst 0, 1)), (61, (.goto 7, 3)), (64, (.lconst 1, 1)), (65, (.iload 9, 2)), (67, (.lshl, 1)), (68, (.lor, 1)), (69, (.lstore 6, 2)), (71, (.iinc 8 1, 3)), (74, (.goto (-47), 3)), (77, (.aload_n 0, 1))] : List (Nat × (Instr × Nat))), decode cX1_put r.1 = .ok r.2 := by decide +kernel
theorem dX1_put_0 : decode cX1_put 0 = .ok (.iload_n 2, 1) := dgX1_put_0 (0, (.iload_n 2, 1)) (List.mem_of_getElem? (i := 0) rfl)
theorem dX1_put_1 : decode cX1_put 1 = .ok (.istore 5, 2) := dgX1_put_0 (1, (.istore 5, 2)) (List.mem_of_getElem? (i := 1) rfl)
theorem dX1_put_3 : decode cX1_put 3 = .ok (.iload 5, 2) := dgX1_put_0 (3, (.iload 5, 2)) (List.mem_of_getElem? (i := 2) rfl)
theorem dX1_put_5 : decode cX1_put 5 = .ok (.iload_n 3, 1) := dgX1_put_0 (5, (.iload_n 3, 1)) (List.mem_of_getElem? (i := 3) rfl)
theorem dX1_put_6 : decode cX1_put 6 = .ok (.if_icmp .gt 86, 3) := dgX1_put_0 (6, (.if_icmp .gt 86, 3)) (List.mem_of_getElem? (i := 4) rfl)
theorem dX1_put_9 : decode cX1_put 9 = .ok (.aload_n 0, 1) := dgX1_put_0 (9, (.aload_n 0, 1)) (List.mem_of_getElem? (i := 5) rfl)
theorem dX1_put_10 : decode cX1_put 10 = .ok (.getfield 43, 3) := dgX1_put_0 (10, (.getfield 43, 3)) (List.mem_of_getElem? (i := 6) rfl)
theorem dX1_put_13 : decode cX1_put 13 = .ok (.iload_n 1, 1) := dgX1_put_0 (13, (.iload_n 1, 1)) (List.mem_of_getElem? (i := 7) rfl)
theorem dX1_put_14 : decode cX1_put 14 = .ok (.iload 5, 2) := dgX1_put_0 (14, (.iload 5, 2)) (List.mem_of_getElem? (i := 8) rfl)
theorem dX1_put_16 : decode cX1_put 16 = .ok (.iload 4, 2) := dgX1_put_0 (16, (.iload 4, 2)) (List.mem_of_getElem? (i := 9) rfl)
theorem dX1_put_18 : decode cX1_put 18 = .ok (.invokevirtual 70, 3) := dgX1_put_0 (18, (.invokevirtual 70, 3)) (List.mem_of_getElem? (i := 10) rfl)
theorem dX1_put_21 : decode cX1_put 21 = .ok (.lconst 0, 1) := dgX1_put_0 (21, (.lconst 0, 1)) (List.mem_of_getElem? (i := 11) rfl)
theorem dX1_put_22 : decode cX1_put 22 = .ok (.lstore 6, 2) := dgX1_put_0 (22, (.lstore 6, 2)) (List.mem_of_getElem? (i := 12) rfl)
theorem dX1_put_24 : decode cX1_put 24 = .ok (.iconst 0, 1) := dgX1_put_0 (24, (.iconst 0, 1)) (List.mem_of_getElem? (i := 13) rfl)
theorem dX1_put_25 : decode cX1_put 25 = .ok (.istore 8, 2) := dgX1_put_0 (25, (.istore 8, 2)) (List.mem_of_getElem? (i := 14) rfl)
theorem dX1_put_27 : decode cX1_put 27 = .ok (.iload 8, 2) := dgX1_put_0 (27, (.iload 8, 2)) (List.mem_of_getElem? (i := 15) rfl)
theorem dX1_put_29 : decode cX1_put 29 = .ok (.aload_n 0, 1) := dgX1_put_0 (29, (.aload_n 0, 1)) (List.mem_of_getElem? (i := 16) rfl)
theorem dX1_put_30 : decode cX1_put 30 = .ok (.getfield 43, 3) := dgX1_put_0 (30, (.getfield 43, 3)) (List.mem_of_getElem? (i := 17) rfl)
theorem dX1_put_33 : decode cX1_put 33 = .ok (.getfield 74, 3) := dgX1_put_0 (33, (.getfield 74, 3)) (List.mem_of_getElem? (i := 18) rfl)
theorem dX1_put_36 : decode cX1_put 36 = .ok (.if_icmp .ge 41, 3) := dgX1_put_0 (36, (.if_icmp .ge 41, 3)) (List.mem_of_getElem? (i := 19) rfl)
theorem dX1_put_39 : decode cX1_put 39 = .ok (.aload_n 0, 1) := dgX1_put_0 (39, (.aload_n 0, 1)) (List.mem_of_getElem? (i := 20) rfl)
theorem dX1_put_40 : decode cX1_put 40 = .ok (.getfield 43, 3) := dgX1_put_0 (40, (.getfield 43, 3)) (List.mem_of_getElem? (i := 21) rfl)
theorem dX1_put_43 : decode cX1_put 43 = .ok (.iload 8, 2) := dgX1_put_0 (43, (.iload 8, 2)) (List.mem_of_getElem? (i := 22) rfl)
theorem dX1_put_45 : decode cX1_put 45 = .ok (.iload 5, 2) := dgX1_put_0 (45, (.iload 5, 2)) (List.mem_of_getElem? (i := 23) rfl)
theorem dX1_put_47 : decode cX1_put 47 = .ok (.invokevirtual 77, 3) := dgX1_put_0 (47, (.invokevirtual 77, 3)) (List.mem_of_getElem? (i := 24) rfl)
theorem dX1_put_50 : decode cX1_put 50 = .ok (.istore 9, 2) := dgX1_put_0 (50, (.istore 9, 2)) (List.mem_of_getElem? (i := 25) rfl)
theorem dX1_put_52 : decode cX1_put 52 = .ok (.lload 6, 2) := dgX1_put_0 (52, (.lload 6, 2)) (List.mem_of_getElem? (i := 26) rfl)
theorem dX1_put_54 : decode cX1_put 54 = .ok (.iload 9, 2) := dgX1_put_0 (54, (.iload 9, 2)) (List.mem_of_getElem? (i := 27) rfl)
theorem dX1_put_56 : decode cX1_put 56 = .ok (.iconst (-1), 1) := dgX1_put_0 (56, (.iconst (-1), 1)) (List.mem_of_getElem? (i := 28) rfl)
theorem dX1_put_57 : decode cX1_put 57 = .ok (.if_icmp .ne 7, 3) := dgX1_put_0 (57, (.if_icmp .ne 7, 3)) (List.mem_of_getElem? (i := 29) rfl)
theorem dX1_put_60 : decode cX1_put 60 = .ok (.lconst 0, 1) := dgX1_put_0 (60, (.lconst 0, 1)) (List.mem_of_getElem? (i := 30) rfl)
theorem dX1_put_61 : decode cX1_put 61 = .ok (.goto 7, 3) := dgX1_put_0 (61, (.goto 7, 3)) (List.mem_of_getElem? (i := 31) rfl)
theorem dX1_put_64 : decode cX1_put 64 = .ok (.lconst 1, 1) := dgX1_put_0 (64, (.lconst 1, 1)) (List.mem_of_getElem? (i := 32) rfl)
theorem dX1_put_65 : decode cX1_put 65 = .ok (.iload 9, 2) := dgX1_put_0 (65, (.iload 9, 2)) (List.mem_of_getElem? (i := 33) rfl)
theorem dX1_put_67 : decode cX1_put 67 = .ok (.lshl, 1) := dgX1_put_0 (67, (.lshl, 1)) (List.mem_of_getElem? (i := 34) rfl)
theorem dX1_put_68 : decode cX1_put 68 = .ok (.lor, 1) := dgX1_put_0 (68, (.lor, 1)) (List.mem_of_getElem? (i := 35) rfl)
theorem dX1_put_69 : decode cX1_put 69 = .ok (.lstore 6, 2) := dgX1_put_0 (69, (.lstore 6, 2)) (List.mem_of_getElem? (i := 36) rfl)
theorem dX1_put_71 : decode cX1_put 71 = .ok (.iinc 8 1, 3) := dgX1_put_0 (71, (.iinc 8 1, 3)) (List.mem_of_getElem? (i := 37) rfl)
theorem dX1_put_74 : decode cX1_put 74 = .ok (.goto (-47), 3) := dgX1_put_0 (74, (.goto (-47), 3)) (List.mem_of_getElem? (i := 38) rfl)
theorem dX1_put_77 : decode cX1_put 77 = .ok (.aload_n 0, 1) := dgX1_put_0 (77, (.aload_n 0, 1)) (List.mem_of_getElem? (i := 39) rfl)
theorem dgX1_put_1 : ∀ r ∈ ([(78, (.getfield 58, 3)), (81, (.iload 5, 2)), (83, (.lload 6, 2)), (85, (.lastore, 1)), (86, (.iinc 5 1, 3)), (89, (.goto (-86), 3)), (92, (.return_, 1))] : List (Nat × (Instr × Nat))), decode cX1_put r.1 = .ok r.2 := by decide +kernel
theorem dX1_put_78 : decode cX1_put 78 = .ok (.getfield 58, 3) := dgX1_put_1 (78, (.getfield 58, 3)) (List.mem_of_getElem? (i := 0) rfl)
theorem dX1_put_81 : decode cX1_put 81 = .ok (.iload 5, 2) := dgX1_put_1 (81, (.iload 5, 2)) (List.mem_of_getElem? (i := 1) rfl)
theorem dX1_put_83 : decode cX1_put 83 = .ok (.lload 6, 2) := dgX1_put_1 (83, (.lload 6, 2)) (List.mem_of_getElem? (i := 2) rfl)
theorem dX1_put_85 : decode cX1_put 85 = .ok (.lastore, 1) := dgX1_put_1 (85, (.lastore, 1)) (List.mem_of_getElem? (i := 3) rfl)
theorem dX1_put_86 : decode cX1_put 86 = .ok (.iinc 5 1, 3) := dgX1_put_1 (86, (.iinc 5 1, 3)) (List.mem_of_getElem? (i := 4) rfl)
theorem dX1_put_89 : decode cX1_put 89 = .ok (.goto (-86), 3) := dgX1_put_1 (89, (.goto (-86), 3)) (List.mem_of_getElem? (i := 5) rfl)
theorem dX1_put_92 : decode cX1_put 92 = .ok (.return_, 1) := dgX1_put_1 (92, (.return_, 1)) (List.mem_of_getElem? (i := 6) rfl)
theorem fl_X1_43 : Cond.fieldLink RX1 43 "LateGlass$House" "bodies" "LLateGlass$Table;" ∈ tblG := tg 173 (by decide +kernel) (by decide +kernel)
theorem ml_X1_70 : Cond.methodLink RX1 70 yX6_set ∈ tblG := tg 602 (by decide +kernel) (by decide +kernel)
theorem gV_X1_70 : GoodIn tblG (wsV RX1 70 RX6 yX6_set (wsG yX6_set cX6_set 4 none)) := tgV ml_X1_70 im_X6_set se_X6_set ini_X6 gW_X6_set
set_option maxHeartbeats 4000000 in
set_option maxRecDepth 100000 in
theorem h_put (l : Launch) (G : g5_G) (a_h a_b a_bn a_bb a_l a_g a_s a_p a_w : Nat) (sz : Nat) (e_le : Int32) (e_st : Int32) (e_fo : Int32) (e_lc : Int32) (e_b : Int32) (p_r : Int32) (p_f : Int32) (p_t : Int32) (p_v : Int32) (e_wa : Int64) (e_gb : Int64) (f_b : Nat → Int32) (f_bb : Nat → Int64) (h_e_b : 0 ≤ e_b.toInt ∧ e_b.toInt ≤ 5) (h_p_f : 0 ≤ p_f.toInt ∧ p_f.toInt ≤ 23) (h_p_t : 0 ≤ p_t.toInt ∧ p_t.toInt ≤ 23) (e_ft : p_f.toInt ≤ p_t.toInt) (e_bo : ∀ c : Nat, c < 24 → f_bb c = bbd f_b e_b.toInt c e_b.toInt.toNat) : Met l yX1_put (wsG yX1_put cX1_put 10 none) ({ frames := 2, cells := 0, slots := 0, locals := 44 }) (va_Pc [.ref a_h, .int p_r, .int p_f, .int p_t, .int p_v] (g5_P G [(a_h, (oc1 e_wa e_le e_st e_fo e_lc a_l a_g a_b a_s a_p a_w e_gb a_bb)), (a_b, (oc6 5 24 a_bn e_b)), (a_bn, (arI G 120 f_b)), (a_bb, (arJ G 24 f_bb))] sz)) (va_Qv (fun (u : va_W) => (∃ (o_f : Nat → Int32) (o_b : Nat → Int64), (o_f = bput f_b e_b.toInt p_r.toInt p_f.toInt (p_t.toInt + 1) p_v) ∧ (∀ c : Nat, c < 24 → o_b c = bbd o_f e_b.toInt c e_b.toInt.toNat) ∧ (u = [(a_h, (oc1 e_wa e_le e_st e_fo e_lc a_l a_g a_b a_s a_p a_w e_gb a_bb)), (a_b, (oc6 5 24 a_bn e_b)), (a_bn, (arI G 120 o_f)), (a_bb, (arJ G 24 o_b))]))) (g5_B G (va_A [(a_h, (oc1 e_wa e_le e_st e_fo e_lc a_l a_g a_b a_s a_p a_w e_gb a_bb)), (a_b, (oc6 5 24 a_bn e_b)), (a_bn, (arI G 120 f_b)), (a_bb, (arJ G 24 f_bb))] sz)) (va_A [(a_h, (oc1 e_wa e_le e_st e_fo e_lc a_l a_g a_b a_s a_p a_w e_gb a_bb)), (a_b, (oc6 5 24 a_bn e_b)), (a_bn, (arI G 120 f_b)), (a_bb, (arJ G 24 f_bb))] sz)) 0 0 (va_A [(a_h, (oc1 e_wa e_le e_st e_fo e_lc a_l a_g a_b a_s a_p a_w e_gb a_bb)), (a_b, (oc6 5 24 a_bn e_b)), (a_bn, (arI G 120 f_b)), (a_bb, (arJ G 24 f_bb))] sz) := by
  refine Met.ofW (cc := cX1_put) (maxL := 10) (ret := none) (by decide +kernel) rfl ?_
  intro p e s m args below meth c s₁ B hml hv
  obtain ⟨rfl, hsz, hP, hK, hD0, hN, hT⟩ := hv
  have hx := B.exec
  have hb := B.bytes
  have hr := B.returns
  have hts : ∀ w ∈ tblG, w.before _ s = true := fun w h => atoms_spec (ws := (wsG yX1_put cX1_put 10 none)) B.pre w (List.mem_cons_of_mem _ h)
  have hown : s.vm.findClass RX1 = some m.cls := findClass_of_methodNamed B.named
  have hlocks := B.notSynchronized
  subst hsz
  have hD := hD0.self (sz := s.heap.size)
  generalize hAe : va_A [(a_h, (oc1 e_wa e_le e_st e_fo e_lc a_l a_g a_b a_s a_p a_w e_gb a_bb)), (a_b, (oc6 5 24 a_bn e_b)), (a_bn, (arI G 120 f_b)), (a_bb, (arJ G 24 f_bb))] s.heap.size = A at hD hT ⊢
  have hA : ∀ q : Nat, s.heap.size ≤ q → A q := fun q h => by rw [← hAe]; exact Or.inr h
  have hS : va_S A s.heap s.heap [] := va_S.rf
  replace hP : va_P G.1 vwCl [(a_h, (oc1 e_wa e_le e_st e_fo e_lc a_l a_g a_b a_s a_p a_w e_gb a_bb)), (a_b, (oc6 5 24 a_bn e_b)), (a_bn, (arI G 120 f_b)), (a_bb, (arJ G 24 f_bb))] s.heap := hP
  have hl := lv_entry ([.ref a_h, .int p_r, .int p_f, .int p_t, .int p_v]) (n := 10) (Nat.le_of_ble_eq_true rfl)
  rw [lg_entry_eq]
  generalize (lg_sl ([.ref a_h, .int p_r, .int p_f, .int p_t, .int p_v]) ++ List.replicate (10 - (lg_sl ([.ref a_h, .int p_r, .int p_f, .int p_t, .int p_v])).length) Slot.unset).toArray = ls at hl ⊢
  replace hl : lv_has ls 10 [(0, .ref a_h), (1, .int p_r), (2, .int p_f), (3, .int p_t), (4, .int p_v)] := hl
  refine lv_iload_n hx hb dX1_put_0 rfl (lv_at hl 2 rfl) ?_
  refine lv_istore (lv' := [(5, .int p_f), (0, .ref a_h), (1, .int p_r), (2, .int p_f), (3, .int p_t), (4, .int p_v)]) hx hb dX1_put_1 hl (by decide +kernel) rfl ?_
  clear hl
  intro ls hl
  refine g5_loop (α := (Int32) × (Nat → Int32) × (Nat → Int64)) (fun (q : (Int32) × (Nat → Int32) × (Nat → Int64)) (ls : Array Slot) (H : Heap) (locs : List Loc) => match q with | (k_h, k_f, k_b) => lv_has ls 10 [(5, .int k_h), (0, .ref a_h), (1, .int p_r), (2, .int p_f), (3, .int p_t), (4, .int p_v)] ∧ va_P G.1 vwCl [(a_h, (oc1 e_wa e_le e_st e_fo e_lc a_l a_g a_b a_s a_p a_w e_gb a_bb)), (a_b, (oc6 5 24 a_bn e_b)), (a_bn, (arI G 120 k_f)), (a_bb, (arJ G 24 k_b))] H ∧ va_D A [(a_h, (oc1 e_wa e_le e_st e_fo e_lc a_l a_g a_b a_s a_p a_w e_gb a_bb)), (a_b, (oc6 5 24 a_bn e_b)), (a_bn, (arI G 120 k_f)), (a_bb, (arJ G 24 k_b))] ∧ va_S A s.heap H locs ∧ (0 ≤ k_h.toInt ∧ k_h.toInt ≤ 24) ∧ (p_f.toInt ≤ k_h.toInt ∧ k_h.toInt ≤ p_t.toInt + 1) ∧ (k_f = bput f_b e_b.toInt p_r.toInt p_f.toInt k_h.toInt p_v) ∧ (∀ c : Nat, c < 24 → k_b c = bbd k_f e_b.toInt c e_b.toInt.toNat)) (fun (q : (Int32) × (Nat → Int32) × (Nat → Int64)) => match q with | (k_h, k_f, k_b) => Int.toNat (24 - k_h.toInt)) (p_f, f_b, f_bb) ⟨lv_sub hl [0, 1, 2, 3, 4, 5] rfl, hP, hD, hS, ⟨by omega, by omega⟩, ⟨by omega, by omega⟩, b_put0, e_bo⟩ ?_
  rintro ⟨k_h, k_f, k_b⟩ ls H locs ⟨hl, hP, hD, hS, (i_1 : 0 ≤ k_h.toInt ∧ k_h.toInt ≤ 24), (i_2 : p_f.toInt ≤ k_h.toInt ∧ k_h.toInt ≤ p_t.toInt + 1), (i_3 : k_f = bput f_b e_b.toInt p_r.toInt p_f.toInt k_h.toInt p_v), (i_4 : ∀ c : Nat, c < 24 → k_b c = bbd k_f e_b.toInt c e_b.toInt.toNat)⟩ ih_3_5
  replace hl : lv_has ls 10 [(5, .int k_h), (0, .ref a_h), (1, .int p_r), (2, .int p_f), (3, .int p_t), (4, .int p_v)] := hl
  refine g5_rs [(a_h, (oc1 e_wa e_le e_st e_fo e_lc a_l a_g a_b a_s a_p a_w e_gb a_bb)), (a_b, (oc6 5 24 a_bn e_b)), (a_bn, (arI G 120 k_f)), (a_bb, (arJ G 24 k_b))] hP hD ?_
  clear hP hD
  intro hP hD
  refine lv_iload hx hb dX1_put_3 (lv_at hl 0 rfl) ?_
  refine lv_iload_n hx hb dX1_put_5 rfl (lv_at hl 4 rfl) ?_
  refine lv_icmp_gt (tgt := 92) hx hb dX1_put_6 (by decide +kernel) (fun c_6 => ?_) (fun c_6 => ?_)
  ·
    have i_6 : k_h.toInt > p_t.toInt := g5_gt (a := k_h.toInt) (b := p_t.toInt) rfl rfl c_6
    exact W.vret hx hb hr (fun t ht hW => ⟨⟨[(a_h, (oc1 e_wa e_le e_st e_fo e_lc a_l a_g a_b a_s a_p a_w e_gb a_bb)), (a_b, (oc6 5 24 a_bn e_b)), (a_bn, (arI G 120 k_f)), (a_bb, (arJ G 24 k_b))], rfl, ⟨k_f, k_b, by rw [i_3, show k_h.toInt = p_t.toInt + 1 by omega], i_4, rfl⟩, by rw [ht]; exact hP.sub [0, 1, 2, 3] rfl, hD.sub [0, 1, 2, 3] (by decide +kernel) rfl⟩, hS.F ht⟩) hS.2.2 dX1_put_92
  ·
    have i_6 : k_h.toInt ≤ p_t.toInt := g5_gtN (a := k_h.toInt) (b := p_t.toInt) rfl rfl c_6
    refine lv_aload_n hx hb dX1_put_9 rfl (lv_at hl 1 rfl) ?_
    refine va_get (D := G.1) (ci := 1) (v := .ref a_b) (C := RX1) (T := TX1) (N := 13) hx hb hts inG_X1 hown hK hP 0 rfl rfl 7 (by decide +kernel) (hts _ fl_X1_43) (fun _ h9 => h9) rfl dX1_put_10 ?_
    refine lv_iload_n hx hb dX1_put_13 rfl (lv_at hl 2 rfl) ?_
    refine lv_iload hx hb dX1_put_14 (lv_at hl 0 rfl) ?_
    refine W.eq (g2 := F0 m 16 ls [.int k_h, .int p_r, .ref a_b]) rfl ?_
    refine lv_iload hx hb dX1_put_16 (lv_at hl 5 rfl) ?_
    obtain ⟨hPc, hDc, hFc⟩ := g5_sub3 (wc := [(a_b, (oc6 5 24 a_bn e_b)), (a_bn, (arI G 120 k_f))]) hP hD hS hA [1, 2] (by decide +kernel) rfl
    refine va_callv (va_runV (As := [.int p_r, .int k_h, .int p_v]) (rest := []) ⟨hx, hb, hml, hown, hts⟩ (t_set_B l G a_b a_bn H.size e_b p_r k_h p_v k_f h_e_b) (cwV 3 hts gV_X1_70 rfl rfl rfl hv_X6_set ⟨Nat.le_of_ble_eq_true rfl, Nat.le_of_ble_eq_true rfl⟩) (g5_preV hPc hK hDc hN hT hS hFc (ci := 6) (q0 := 0) rfl rfl) rfl rfl hl.1 rfl (lv_room (Nat.le_of_ble_eq_true rfl)) dX1_put_18 ⟨Nat.le_of_ble_eq_true rfl, Nat.le_of_ble_eq_true rfl⟩) hS (fun q _ h => hFc q h) hFc (fun u t H locs ht hvm hw hB hz1 hk1 hS => ?_)
    obtain ⟨hP1, hD1⟩ := hB
    have hP1 := g5_ht ht hP1
    obtain ⟨z8, (i_7 : z8 = tset k_f e_b.toInt 24 p_r.toInt k_h.toInt p_v), rfl⟩ := hw
    have hJ9 := va_join (wr := [(a_h, (oc1 e_wa e_le e_st e_fo e_lc a_l a_g a_b a_s a_p a_w e_gb a_bb)), (a_bb, (arJ G 24 k_b))]) hP hD [1, 2] [0, 3] rfl rfl (by decide +kernel) (by decide +kernel) hk1 hFc hP1 hD1
    clear hP hD hPc hDc hFc ht hvm hz1 hk1 hP1 hD1
    obtain ⟨hP, hD⟩ := hJ9
    refine g5_rs [(a_h, (oc1 e_wa e_le e_st e_fo e_lc a_l a_g a_b a_s a_p a_w e_gb a_bb)), (a_bb, (arJ G 24 k_b)), (a_b, (oc6 5 24 a_bn e_b)), (a_bn, (arI G 120 z8))] hP hD ?_
    clear hP hD
    intro hP hD
    refine lv_lconst (v := 0) hx hb dX1_put_21 (by decide +kernel) ?_
    refine lv_lstore (lv' := [(6, .long 0), (5, .int k_h), (0, .ref a_h), (1, .int p_r), (2, .int p_f), (3, .int p_t), (4, .int p_v)]) hx hb dX1_put_22 hl (by decide +kernel) rfl ?_
    clear hl
    intro ls hl
    refine lv_iconst (v := 0) hx hb dX1_put_24 (by decide +kernel) ?_
    refine W.eq (g2 := F0 m 25 ls [.int 0]) rfl ?_
    refine lv_istore (lv' := [(8, .int 0), (6, .long 0), (5, .int k_h), (0, .ref a_h), (1, .int p_r), (2, .int p_f), (3, .int p_t), (4, .int p_v)]) hx hb dX1_put_25 hl (by decide +kernel) rfl ?_
    clear hl
    intro ls hl
    refine g5_loop (α := (Int32) × (Int64)) (fun (q : (Int32) × (Int64)) (ls : Array Slot) (H : Heap) (locs : List Loc) => match q with | (k_o, k_x) => lv_has ls 10 [(6, .long k_x), (8, .int k_o), (5, .int k_h), (0, .ref a_h), (1, .int p_r), (2, .int p_f), (3, .int p_t), (4, .int p_v)] ∧ va_P G.1 vwCl [(a_h, (oc1 e_wa e_le e_st e_fo e_lc a_l a_g a_b a_s a_p a_w e_gb a_bb)), (a_bb, (arJ G 24 k_b)), (a_b, (oc6 5 24 a_bn e_b)), (a_bn, (arI G 120 z8))] H ∧ va_D A [(a_h, (oc1 e_wa e_le e_st e_fo e_lc a_l a_g a_b a_s a_p a_w e_gb a_bb)), (a_bb, (arJ G 24 k_b)), (a_b, (oc6 5 24 a_bn e_b)), (a_bn, (arI G 120 z8))] ∧ va_S A s.heap H locs ∧ (0 ≤ k_o.toInt ∧ k_o.toInt ≤ 5) ∧ (k_o.toInt ≤ e_b.toInt) ∧ (k_x = bbd z8 e_b.toInt k_h.toInt k_o.toInt.toNat)) (fun (q : (Int32) × (Int64)) => match q with | (k_o, k_x) => Int.toNat (5 - k_o.toInt)) (0, 0) ⟨lv_sub hl [1, 0, 2, 3, 4, 5, 6, 7] rfl, hP, hD, hS, ⟨by decide, by decide⟩, by have z0 : (0 : Int32).toInt = 0 := (by decide +kernel); omega, b_bbd0⟩ ?_
    rintro ⟨k_o, k_x⟩ ls H locs ⟨hl, hP, hD, hS, (i_9 : 0 ≤ k_o.toInt ∧ k_o.toInt ≤ 5), (i_10 : k_o.toInt ≤ e_b.toInt), (i_11 : k_x = bbd z8 e_b.toInt k_h.toInt k_o.toInt.toNat)⟩ ih_27_12
    replace hl : lv_has ls 10 [(6, .long k_x), (8, .int k_o), (5, .int k_h), (0, .ref a_h), (1, .int p_r), (2, .int p_f), (3, .int p_t), (4, .int p_v)] := hl
    refine g5_rs [(a_h, (oc1 e_wa e_le e_st e_fo e_lc a_l a_g a_b a_s a_p a_w e_gb a_bb)), (a_bb, (arJ G 24 k_b)), (a_b, (oc6 5 24 a_bn e_b)), (a_bn, (arI G 120 z8))] hP hD ?_
    clear hP hD
    intro hP hD
    refine lv_iload hx hb dX1_put_27 (lv_at hl 1 rfl) ?_
    refine lv_aload_n hx hb dX1_put_29 rfl (lv_at hl 3 rfl) ?_
    refine va_get (D := G.1) (ci := 1) (v := .ref a_b) (C := RX1) (T := TX1) (N := 13) hx hb hts inG_X1 hown hK hP 0 rfl rfl 7 (by decide +kernel) (hts _ fl_X1_43) (fun _ h9 => h9) rfl dX1_put_30 ?_
    refine va_get (D := G.1) (ci := 6) (v := .int e_b) (C := RX6) (T := TX6) (N := 4) hx hb hts inG_X6 hown hK hP 2 rfl rfl 3 (by decide +kernel) (hts _ fl_X1_74) (fun _ h9 => h9) rfl dX1_put_33 ?_
    refine W.eq (g2 := F0 m 36 ls [.int e_b, .int k_o]) rfl ?_
    refine lv_icmp_ge (tgt := 77) hx hb dX1_put_36 (by decide +kernel) (fun c_13 => ?_) (fun c_13 => ?_)
    ·
      have i_13 : k_o.toInt ≥ e_b.toInt := g5_ge (a := k_o.toInt) (b := e_b.toInt) rfl rfl c_13
      refine lv_aload_n hx hb dX1_put_77 rfl (lv_at hl 3 rfl) ?_
      refine va_get (D := G.1) (ci := 1) (v := .ref a_bb) (C := RX1) (T := TX1) (N := 13) hx hb hts inG_X1 hown hK hP 0 rfl rfl 12 (by decide +kernel) (hts _ fl_X1_58) (fun _ h9 => h9) rfl dX1_put_78 ?_
      refine lv_iload hx hb dX1_put_81 (lv_at hl 2 rfl) ?_
      refine lv_lload hx hb dX1_put_83 (lv_at hl 0 rfl) ?_
      refine W.eq (g2 := F0 m 85 ls [.long k_x, .int k_h, .ref a_bb]) rfl ?_
      refine va_last hx hb hK hP hD hS 1 1 rfl rfl (i := k_h) (x := k_x) (vp_in_iff.mpr ⟨by omega, by omega⟩) dX1_put_85 ?_
      clear hP hD hS
      intro H locs hP hD hS
      refine g5_rs [(a_h, (oc1 e_wa e_le e_st e_fo e_lc a_l a_g a_b a_s a_p a_w e_gb a_bb)), (a_bb, (arJ G 24 (vp_updL k_b k_h.toNatClampNeg k_x))), (a_b, (oc6 5 24 a_bn e_b)), (a_bn, (arI G 120 z8))] hP hD ?_
      clear hP hD
      intro hP hD
      refine lv_iinc (v := (k_h + 1)) (lv' := [(5, .int (k_h + 1)), (6, .long k_x), (8, .int k_o), (0, .ref a_h), (1, .int p_r), (2, .int p_f), (3, .int p_t), (4, .int p_v)]) hx hb dX1_put_86 hl (k := 2) rfl rfl (by decide +kernel) rfl ?_
      clear hl
      intro ls hl
      have t_14 : (k_h + 1).toInt = k_h.toInt + 1 := g5_iadd (a := k_h.toInt) (b := 1) rfl (by decide +kernel) (by omega) (by omega)
      refine lv_goto (tgt := 3) hx hb dX1_put_89 (by decide +kernel) ?_
      exact ih_3_5 ((k_h + 1), z8, (vp_updL k_b k_h.toNatClampNeg k_x)) ls H locs (show Int.toNat (24 - (k_h + 1).toInt) < Int.toNat (24 - k_h.toInt) from g_up (show k_h.toInt < (k_h + 1).toInt by omega) (show k_h.toInt < 24 by omega)) ⟨lv_sub hl [0, 3, 4, 5, 6, 7] rfl, hP.sub [0, 2, 3, 1] rfl, hD.sub [0, 2, 3, 1] (by decide +kernel) rfl, hS, ⟨by omega, by omega⟩, ⟨by omega, by omega⟩, i_7.trans (b_putS i_3 (by omega) (by omega) (by omega) (by omega)), by rw [i_7]; exact b_step (by omega) i_4 (by rw [← i_7, i_11, show k_o.toInt = e_b.toInt by omega])⟩
    ·
      have i_13 : k_o.toInt < e_b.toInt := g5_geN (a := k_o.toInt) (b := e_b.toInt) rfl rfl c_13
      refine lv_aload_n hx hb dX1_put_39 rfl (lv_at hl 3 rfl) ?_
      refine va_get (D := G.1) (ci := 1) (v := .ref a_b) (C := RX1) (T := TX1) (N := 13) hx hb hts inG_X1 hown hK hP 0 rfl rfl 7 (by decide +kernel) (hts _ fl_X1_43) (fun _ h9 => h9) rfl dX1_put_40 ?_
      refine lv_iload hx hb dX1_put_43 (lv_at hl 1 rfl) ?_
      refine lv_iload hx hb dX1_put_45 (lv_at hl 2 rfl) ?_
      refine W.eq (g2 := F0 m 47 ls [.int k_h, .int k_o, .ref a_b]) rfl ?_
      obtain ⟨hPc, hDc, hFc⟩ := g5_sub3 (wc := [(a_b, (oc6 5 24 a_bn e_b)), (a_bn, (arI G 120 z8))]) hP hD hS hA [2, 3] (by decide +kernel) rfl
      refine va_calli (va_runV (As := [.int k_o, .int k_h]) (rest := []) ⟨hx, hb, hml, hown, hts⟩ (t_get_B l G a_b a_bn H.size e_b k_o k_h z8 h_e_b) (cwV 2 hts gV_X1_77 rfl rfl rfl hv_X6_get ⟨Nat.le_of_ble_eq_true rfl, Nat.le_of_ble_eq_true rfl⟩) (g5_preV hPc hK hDc hN hT hS hFc (ci := 6) (q0 := 0) rfl rfl) rfl rfl hl.1 rfl (lv_room (Nat.le_of_ble_eq_true rfl)) dX1_put_47 ⟨Nat.le_of_ble_eq_true rfl, Nat.le_of_ble_eq_true rfl⟩) hS (fun q _ h => hFc q h) hFc (fun r u t H locs ht hvm hw hB hz1 hk1 hS => ?_)
      obtain ⟨hP1, hD1⟩ := hB
      have hP1 := g5_ht ht hP1
      obtain ⟨z16, (i_15 : z16 = tget z8 e_b.toInt 24 k_o.toInt k_h.toInt), y17, rfl⟩ := hw
      have hJ9 := va_join (wr := [(a_h, (oc1 e_wa e_le e_st e_fo e_lc a_l a_g a_b a_s a_p a_w e_gb a_bb)), (a_bb, (arJ G 24 k_b))]) hP hD [2, 3] [0, 1] rfl rfl (by decide +kernel) (by decide +kernel) hk1 hFc hP1 hD1
      clear hP hD hPc hDc hFc ht hvm hz1 hk1 hP1 hD1
      obtain ⟨hP, hD⟩ := hJ9
      refine g5_rs [(a_h, (oc1 e_wa e_le e_st e_fo e_lc a_l a_g a_b a_s a_p a_w e_gb a_bb)), (a_bb, (arJ G 24 k_b)), (a_b, (oc6 5 24 a_bn e_b)), (a_bn, (arI G 120 z8))] hP hD ?_
      clear hP hD
      intro hP hD
      refine g5_ti (v := z16) y17 ?_
      refine lv_istore (lv' := [(9, .int z16), (6, .long k_x), (8, .int k_o), (5, .int k_h), (0, .ref a_h), (1, .int p_r), (2, .int p_f), (3, .int p_t), (4, .int p_v)]) hx hb dX1_put_50 hl (by decide +kernel) rfl ?_
      clear hl
      intro ls hl
      refine lv_lload hx hb dX1_put_52 (lv_at hl 1 rfl) ?_
      refine lv_iload hx hb dX1_put_54 (lv_at hl 0 rfl) ?_
      refine lv_iconst (v := (-1)) hx hb dX1_put_56 (by decide +kernel) ?_
      refine W.eq (g2 := F0 m 57 ls [.int (-1), .int z16, .long k_x]) rfl ?_
      refine lv_icmp_ne (tgt := 64) hx hb dX1_put_57 (by decide +kernel) (fun c_18 => ?_) (fun c_18 => ?_)
      ·
        have n_18 : gNe (z16.toInt) ((-1)) := g5_ne (a := z16.toInt) (b := (-1)) rfl (by decide +kernel) c_18
        refine lv_lconst (v := 1) hx hb dX1_put_64 (by decide +kernel) ?_
        refine lv_iload hx hb dX1_put_65 (lv_at hl 0 rfl) ?_
        refine lv_lshl (v := ((1 : Int64) <<< (z16.toInt64 &&& 63))) hx hb dX1_put_67 rfl ?_
        refine lv_lor hx hb dX1_put_68 ?_
        refine W.eq (g2 := F0 m 69 ls [.long (k_x ||| ((1 : Int64) <<< (z16.toInt64 &&& 63)))]) rfl ?_
        refine lv_lstore (lv' := [(6, .long (k_x ||| ((1 : Int64) <<< (z16.toInt64 &&& 63)))), (9, .int z16), (8, .int k_o), (5, .int k_h), (0, .ref a_h), (1, .int p_r), (2, .int p_f), (3, .int p_t), (4, .int p_v)]) hx hb dX1_put_69 hl (by decide +kernel) rfl ?_
        clear hl
        intro ls hl
        refine lv_iinc (v := (k_o + 1)) (lv' := [(8, .int (k_o + 1)), (6, .long (k_x ||| ((1 : Int64) <<< (z16.toInt64 &&& 63)))), (9, .int z16), (5, .int k_h), (0, .ref a_h), (1, .int p_r), (2, .int p_f), (3, .int p_t), (4, .int p_v)]) hx hb dX1_put_71 hl (k := 2) rfl rfl (by decide +kernel) rfl ?_
        clear hl
        intro ls hl
        have t_19 : (k_o + 1).toInt = k_o.toInt + 1 := g5_iadd (a := k_o.toInt) (b := 1) rfl (by decide +kernel) (by omega) (by omega)
        refine lv_goto (tgt := 27) hx hb dX1_put_74 (by decide +kernel) ?_
        exact ih_27_12 ((k_o + 1), (k_x ||| ((1 : Int64) <<< (z16.toInt64 &&& 63)))) ls H locs (show Int.toNat (5 - (k_o + 1).toInt) < Int.toNat (5 - k_o.toInt) from g_up (show k_o.toInt < (k_o + 1).toInt by omega) (show k_o.toInt < 5 by omega)) ⟨lv_sub hl [1, 0, 3, 4, 5, 6, 7, 8] rfl, hP, hD, hS, ⟨by omega, by omega⟩, by omega, b_bbdS i_11 i_15 n_18 (by omega) (by omega)⟩
      ·
        have i_18 : z16.toInt = (-1) := g5_neN (a := z16.toInt) (b := (-1)) rfl (by decide +kernel) c_18
        refine lv_lconst (v := 0) hx hb dX1_put_60 (by decide +kernel) ?_
        refine lv_goto (tgt := 68) hx hb dX1_put_61 (by decide +kernel) ?_
        refine lv_lor hx hb dX1_put_68 ?_
        refine g5_tl (v := k_x) (by simp) ?_
        refine lv_lstore (lv' := [(6, .long k_x), (9, .int z16), (8, .int k_o), (5, .int k_h), (0, .ref a_h), (1, .int p_r), (2, .int p_f), (3, .int p_t), (4, .int p_v)]) hx hb dX1_put_69 hl (by decide +kernel) rfl ?_
        clear hl
        intro ls hl
        refine W.eq (g2 := F0 m 71 ls []) rfl ?_
        refine lv_iinc (v := (k_o + 1)) (lv' := [(8, .int (k_o + 1)), (6, .long k_x), (9, .int z16), (5, .int k_h), (0, .ref a_h), (1, .int p_r), (2, .int p_f), (3, .int p_t), (4, .int p_v)]) hx hb dX1_put_71 hl (k := 2) rfl rfl (by decide +kernel) rfl ?_
        clear hl
        intro ls hl
        have t_20 : (k_o + 1).toInt = k_o.toInt + 1 := g5_iadd (a := k_o.toInt) (b := 1) rfl (by decide +kernel) (by omega) (by omega)
        refine lv_goto (tgt := 27) hx hb dX1_put_74 (by decide +kernel) ?_
        exact ih_27_12 ((k_o + 1), k_x) ls H locs (show Int.toNat (5 - (k_o + 1).toInt) < Int.toNat (5 - k_o.toInt) from g_up (show k_o.toInt < (k_o + 1).toInt by omega) (show k_o.toInt < 5 by omega)) ⟨lv_sub hl [1, 0, 3, 4, 5, 6, 7, 8] rfl, hP, hD, hS, ⟨by omega, by omega⟩, by omega, b_bbdN i_11 i_15 (by omega) (by omega) (by omega)⟩
theorem dgX2_combine_0 : ∀ r ∈ ([(0, (.iload_n 2, 1)), (1, (.ifCond .lt 32, 3)), (4, (.iload_n 2, 1)), (5, (.iconst 1, 1)), (6, (.iadd, 1)), (7, (.aload_n 0, 1)), (8, (.getfield 15, 3)), (11, (.arraylength, 1)), (12, (.if_icmp .ge 21, 3)), (15, (.iload_n 1, 1)), (16, (.iconst 5, 1)), (17, (.if_icmp .ne 18, 3)), (20, (.aload_n 0, 1)), (21, (.getfield 15, 3)), (24, (.iload_n 2, 1)), (25, (.iconst 1, 1)), (26, (.iadd, 1)), (27, (.laload, 1)), (28, (.lconst 0, 1)), (29, (.lcmp, 1)), (30, (.ifCond .ne 5, 3)), (33, (.iconst 0, 1)), (34, (.ireturn, 1)), (35, (.aload_n 0, 1)), (36, (.getfield 15, 3)), (39, (.iload_n 2, 1)), (40, (.laload, 1)), (41, (.lstore_n 3, 1)), (42, (.aload_n 0, 1)), (43, (.getfield 15, 3)), (46, (.iload_n 2, 1)), (47, (.iconst 1, 1)), (48, (.iadd, 1)), (49, (.laload, 1)), (50, (.lstore 5, 2)), (52, (.iload_n 1, 1)), (53, (.tableswitch 67 2 5 #[31, 40, 49, 58], 31)), (84, (.lload_n 3, 1)), (85, (.lload 5, 2)), (87, (.ladd, 1))] : List (Nat × (Instr × Nat))), decode cX2_combine r.1 = .ok r.2 := by decide +kernel
theorem dX2_combine_0 : decode cX2_combine 0 = .ok (.iload_n 2, 1) := dgX2_combine_0 (0, (.iload_n 2, 1)) (List.mem_of_getElem? (i := 0) rfl)
theorem dX2_combine_1 : decode cX2_combine 1 = .ok (.ifCond .lt 32, 3) := dgX2_combine_0 (1, (.ifCond .lt 32, 3)) (List.mem_of_getElem? (i := 1) rfl)
theorem dX2_combine_4 : decode cX2_combine 4 = .ok (.iload_n 2, 1) := dgX2_combine_0 (4, (.iload_n 2, 1)) (List.mem_of_getElem? (i := 2) rfl)
theorem dX2_combine_5 : decode cX2_combine 5 = .ok (.iconst 1, 1) := dgX2_combine_0 (5, (.iconst 1, 1)) (List.mem_of_getElem? (i := 3) rfl)
theorem dX2_combine_6 : decode cX2_combine 6 = .ok (.iadd, 1) := dgX2_combine_0 (6, (.iadd, 1)) (List.mem_of_getElem? (i := 4) rfl)
theorem dX2_combine_7 : decode cX2_combine 7 = .ok (.aload_n 0, 1) := dgX2_combine_0 (7, (.aload_n 0, 1)) (List.mem_of_getElem? (i := 5) rfl)
theorem dX2_combine_8 : decode cX2_combine 8 = .ok (.getfield 15, 3) := dgX2_combine_0 (8, (.getfield 15, 3)) (List.mem_of_getElem? (i := 6) rfl)
theorem dX2_combine_11 : decode cX2_combine 11 = .ok (.arraylength, 1) := dgX2_combine_0 (11, (.arraylength, 1)) (List.mem_of_getElem? (i := 7) rfl)
theorem dX2_combine_12 : decode cX2_combine 12 = .ok (.if_icmp .ge 21, 3) := dgX2_combine_0 (12, (.if_icmp .ge 21, 3)) (List.mem_of_getElem? (i := 8) rfl)
theorem dX2_combine_15 : decode cX2_combine 15 = .ok (.iload_n 1, 1) := dgX2_combine_0 (15, (.iload_n 1, 1)) (List.mem_of_getElem? (i := 9) rfl)
theorem dX2_combine_16 : decode cX2_combine 16 = .ok (.iconst 5, 1) := dgX2_combine_0 (16, (.iconst 5, 1)) (List.mem_of_getElem? (i := 10) rfl)
theorem dX2_combine_17 : decode cX2_combine 17 = .ok (.if_icmp .ne 18, 3) := dgX2_combine_0 (17, (.if_icmp .ne 18, 3)) (List.mem_of_getElem? (i := 11) rfl)
theorem dX2_combine_20 : decode cX2_combine 20 = .ok (.aload_n 0, 1) := dgX2_combine_0 (20, (.aload_n 0, 1)) (List.mem_of_getElem? (i := 12) rfl)
theorem dX2_combine_21 : decode cX2_combine 21 = .ok (.getfield 15, 3) := dgX2_combine_0 (21, (.getfield 15, 3)) (List.mem_of_getElem? (i := 13) rfl)
theorem dX2_combine_24 : decode cX2_combine 24 = .ok (.iload_n 2, 1) := dgX2_combine_0 (24, (.iload_n 2, 1)) (List.mem_of_getElem? (i := 14) rfl)
theorem dX2_combine_25 : decode cX2_combine 25 = .ok (.iconst 1, 1) := dgX2_combine_0 (25, (.iconst 1, 1)) (List.mem_of_getElem? (i := 15) rfl)
theorem dX2_combine_26 : decode cX2_combine 26 = .ok (.iadd, 1) := dgX2_combine_0 (26, (.iadd, 1)) (List.mem_of_getElem? (i := 16) rfl)
theorem dX2_combine_27 : decode cX2_combine 27 = .ok (.laload, 1) := dgX2_combine_0 (27, (.laload, 1)) (List.mem_of_getElem? (i := 17) rfl)
theorem dX2_combine_28 : decode cX2_combine 28 = .ok (.lconst 0, 1) := dgX2_combine_0 (28, (.lconst 0, 1)) (List.mem_of_getElem? (i := 18) rfl)
theorem dX2_combine_29 : decode cX2_combine 29 = .ok (.lcmp, 1) := dgX2_combine_0 (29, (.lcmp, 1)) (List.mem_of_getElem? (i := 19) rfl)
theorem dX2_combine_30 : decode cX2_combine 30 = .ok (.ifCond .ne 5, 3) := dgX2_combine_0 (30, (.ifCond .ne 5, 3)) (List.mem_of_getElem? (i := 20) rfl)
theorem dX2_combine_33 : decode cX2_combine 33 = .ok (.iconst 0, 1) := dgX2_combine_0 (33, (.iconst 0, 1)) (List.mem_of_getElem? (i := 21) rfl)
theorem dX2_combine_34 : decode cX2_combine 34 = .ok (.ireturn, 1) := dgX2_combine_0 (34, (.ireturn, 1)) (List.mem_of_getElem? (i := 22) rfl)
theorem dX2_combine_35 : decode cX2_combine 35 = .ok (.aload_n 0, 1) := dgX2_combine_0 (35, (.aload_n 0, 1)) (List.mem_of_getElem? (i := 23) rfl)
theorem dX2_combine_36 : decode cX2_combine 36 = .ok (.getfield 15, 3) := dgX2_combine_0 (36, (.getfield 15, 3)) (List.mem_of_getElem? (i := 24) rfl)
theorem dX2_combine_39 : decode cX2_combine 39 = .ok (.iload_n 2, 1) := dgX2_combine_0 (39, (.iload_n 2, 1)) (List.mem_of_getElem? (i := 25) rfl)
theorem dX2_combine_40 : decode cX2_combine 40 = .ok (.laload, 1) := dgX2_combine_0 (40, (.laload, 1)) (List.mem_of_getElem? (i := 26) rfl)
theorem dX2_combine_41 : decode cX2_combine 41 = .ok (.lstore_n 3, 1) := dgX2_combine_0 (41, (.lstore_n 3, 1)) (List.mem_of_getElem? (i := 27) rfl)
theorem dX2_combine_42 : decode cX2_combine 42 = .ok (.aload_n 0, 1) := dgX2_combine_0 (42, (.aload_n 0, 1)) (List.mem_of_getElem? (i := 28) rfl)
theorem dX2_combine_43 : decode cX2_combine 43 = .ok (.getfield 15, 3) := dgX2_combine_0 (43, (.getfield 15, 3)) (List.mem_of_getElem? (i := 29) rfl)
theorem dX2_combine_46 : decode cX2_combine 46 = .ok (.iload_n 2, 1) := dgX2_combine_0 (46, (.iload_n 2, 1)) (List.mem_of_getElem? (i := 30) rfl)
theorem dX2_combine_47 : decode cX2_combine 47 = .ok (.iconst 1, 1) := dgX2_combine_0 (47, (.iconst 1, 1)) (List.mem_of_getElem? (i := 31) rfl)
theorem dX2_combine_48 : decode cX2_combine 48 = .ok (.iadd, 1) := dgX2_combine_0 (48, (.iadd, 1)) (List.mem_of_getElem? (i := 32) rfl)
theorem dX2_combine_49 : decode cX2_combine 49 = .ok (.laload, 1) := dgX2_combine_0 (49, (.laload, 1)) (List.mem_of_getElem? (i := 33) rfl)
theorem dX2_combine_50 : decode cX2_combine 50 = .ok (.lstore 5, 2) := dgX2_combine_0 (50, (.lstore 5, 2)) (List.mem_of_getElem? (i := 34) rfl)
theorem dX2_combine_52 : decode cX2_combine 52 = .ok (.iload_n 1, 1) := dgX2_combine_0 (52, (.iload_n 1, 1)) (List.mem_of_getElem? (i := 35) rfl)
theorem dX2_combine_53 : decode cX2_combine 53 = .ok (.tableswitch 67 2 5 #[31, 40, 49, 58], 31) := dgX2_combine_0 (53, (.tableswitch 67 2 5 #[31, 40, 49, 58], 31)) (List.mem_of_getElem? (i := 36) rfl)
theorem dX2_combine_84 : decode cX2_combine 84 = .ok (.lload_n 3, 1) := dgX2_combine_0 (84, (.lload_n 3, 1)) (List.mem_of_getElem? (i := 37) rfl)
theorem dX2_combine_85 : decode cX2_combine 85 = .ok (.lload 5, 2) := dgX2_combine_0 (85, (.lload 5, 2)) (List.mem_of_getElem? (i := 38) rfl)
theorem dX2_combine_87 : decode cX2_combine 87 = .ok (.ladd, 1) := dgX2_combine_0 (87, (.ladd, 1)) (List.mem_of_getElem? (i := 39) rfl)
theorem dgX2_combine_1 : ∀ r ∈ ([(88, (.lstore 7, 2)), (90, (.goto 76, 3)), (93, (.lload_n 3, 1)), (94, (.lload 5, 2)), (96, (.lsub, 1)), (97, (.lstore 7, 2)), (99, (.goto 67, 3)), (102, (.lload_n 3, 1)), (103, (.lload 5, 2)), (105, (.lmul, 1)), (106, (.lstore 7, 2)), (108, (.goto 58, 3)), (111, (.lload_n 3, 1)), (112, (.lload 5, 2)), (114, (.ldiv, 1)), (115, (.lstore 7, 2)), (117, (.goto 49, 3)), (120, (.iload_n 1, 1)), (121, (.bipush 6, 2)), (123, (.if_icmp .ne 13, 3)), (126, (.lload_n 3, 1)), (127, (.lload 5, 2)), (129, (.lcmp, 1)), (130, (.ifCond .ge 33, 3)), (133, (.goto 26, 3)), (136, (.iload_n 1, 1)), (137, (.bipush 7, 2)), (139, (.if_icmp .ne 13, 3)), (142, (.lload_n 3, 1)), (143, (.lload 5, 2)), (145, (.lcmp, 1)), (146, (.ifCond .le 17, 3)), (149, (.goto 10, 3)), (152, (.lload_n 3, 1)), (153, (.lload 5, 2)), (155, (.lcmp, 1)), (156, (.ifCond .ne 7, 3)), (159, (.lconst 1, 1)), (160, (.goto 4, 3)), (163, (.lconst 0, 1))] : List (Nat × (Instr × Nat))), decode cX2_combine r.1 = .ok r.2 := by decide +kernel
theorem dX2_combine_88 : decode cX2_combine 88 = .ok (.lstore 7, 2) := dgX2_combine_1 (88, (.lstore 7, 2)) (List.mem_of_getElem? (i := 0) rfl)
theorem dX2_combine_90 : decode cX2_combine 90 = .ok (.goto 76, 3) := dgX2_combine_1 (90, (.goto 76, 3)) (List.mem_of_getElem? (i := 1) rfl)
theorem dX2_combine_93 : decode cX2_combine 93 = .ok (.lload_n 3, 1) := dgX2_combine_1 (93, (.lload_n 3, 1)) (List.mem_of_getElem? (i := 2) rfl)
theorem dX2_combine_94 : decode cX2_combine 94 = .ok (.lload 5, 2) := dgX2_combine_1 (94, (.lload 5, 2)) (List.mem_of_getElem? (i := 3) rfl)
theorem dX2_combine_96 : decode cX2_combine 96 = .ok (.lsub, 1) := dgX2_combine_1 (96, (.lsub, 1)) (List.mem_of_getElem? (i := 4) rfl)
theorem dX2_combine_97 : decode cX2_combine 97 = .ok (.lstore 7, 2) := dgX2_combine_1 (97, (.lstore 7, 2)) (List.mem_of_getElem? (i := 5) rfl)
theorem dX2_combine_99 : decode cX2_combine 99 = .ok (.goto 67, 3) := dgX2_combine_1 (99, (.goto 67, 3)) (List.mem_of_getElem? (i := 6) rfl)
theorem dX2_combine_102 : decode cX2_combine 102 = .ok (.lload_n 3, 1) := dgX2_combine_1 (102, (.lload_n 3, 1)) (List.mem_of_getElem? (i := 7) rfl)
theorem dX2_combine_103 : decode cX2_combine 103 = .ok (.lload 5, 2) := dgX2_combine_1 (103, (.lload 5, 2)) (List.mem_of_getElem? (i := 8) rfl)
theorem dX2_combine_105 : decode cX2_combine 105 = .ok (.lmul, 1) := dgX2_combine_1 (105, (.lmul, 1)) (List.mem_of_getElem? (i := 9) rfl)
theorem dX2_combine_106 : decode cX2_combine 106 = .ok (.lstore 7, 2) := dgX2_combine_1 (106, (.lstore 7, 2)) (List.mem_of_getElem? (i := 10) rfl)
theorem dX2_combine_108 : decode cX2_combine 108 = .ok (.goto 58, 3) := dgX2_combine_1 (108, (.goto 58, 3)) (List.mem_of_getElem? (i := 11) rfl)
theorem dX2_combine_111 : decode cX2_combine 111 = .ok (.lload_n 3, 1) := dgX2_combine_1 (111, (.lload_n 3, 1)) (List.mem_of_getElem? (i := 12) rfl)
theorem dX2_combine_112 : decode cX2_combine 112 = .ok (.lload 5, 2) := dgX2_combine_1 (112, (.lload 5, 2)) (List.mem_of_getElem? (i := 13) rfl)
theorem dX2_combine_114 : decode cX2_combine 114 = .ok (.ldiv, 1) := dgX2_combine_1 (114, (.ldiv, 1)) (List.mem_of_getElem? (i := 14) rfl)
theorem dX2_combine_115 : decode cX2_combine 115 = .ok (.lstore 7, 2) := dgX2_combine_1 (115, (.lstore 7, 2)) (List.mem_of_getElem? (i := 15) rfl)
theorem dX2_combine_117 : decode cX2_combine 117 = .ok (.goto 49, 3) := dgX2_combine_1 (117, (.goto 49, 3)) (List.mem_of_getElem? (i := 16) rfl)
theorem dX2_combine_120 : decode cX2_combine 120 = .ok (.iload_n 1, 1) := dgX2_combine_1 (120, (.iload_n 1, 1)) (List.mem_of_getElem? (i := 17) rfl)
theorem dX2_combine_121 : decode cX2_combine 121 = .ok (.bipush 6, 2) := dgX2_combine_1 (121, (.bipush 6, 2)) (List.mem_of_getElem? (i := 18) rfl)
theorem dX2_combine_123 : decode cX2_combine 123 = .ok (.if_icmp .ne 13, 3) := dgX2_combine_1 (123, (.if_icmp .ne 13, 3)) (List.mem_of_getElem? (i := 19) rfl)
theorem dX2_combine_126 : decode cX2_combine 126 = .ok (.lload_n 3, 1) := dgX2_combine_1 (126, (.lload_n 3, 1)) (List.mem_of_getElem? (i := 20) rfl)
theorem dX2_combine_127 : decode cX2_combine 127 = .ok (.lload 5, 2) := dgX2_combine_1 (127, (.lload 5, 2)) (List.mem_of_getElem? (i := 21) rfl)
theorem dX2_combine_129 : decode cX2_combine 129 = .ok (.lcmp, 1) := dgX2_combine_1 (129, (.lcmp, 1)) (List.mem_of_getElem? (i := 22) rfl)
theorem dX2_combine_130 : decode cX2_combine 130 = .ok (.ifCond .ge 33, 3) := dgX2_combine_1 (130, (.ifCond .ge 33, 3)) (List.mem_of_getElem? (i := 23) rfl)
theorem dX2_combine_133 : decode cX2_combine 133 = .ok (.goto 26, 3) := dgX2_combine_1 (133, (.goto 26, 3)) (List.mem_of_getElem? (i := 24) rfl)
theorem dX2_combine_136 : decode cX2_combine 136 = .ok (.iload_n 1, 1) := dgX2_combine_1 (136, (.iload_n 1, 1)) (List.mem_of_getElem? (i := 25) rfl)
theorem dX2_combine_137 : decode cX2_combine 137 = .ok (.bipush 7, 2) := dgX2_combine_1 (137, (.bipush 7, 2)) (List.mem_of_getElem? (i := 26) rfl)
theorem dX2_combine_139 : decode cX2_combine 139 = .ok (.if_icmp .ne 13, 3) := dgX2_combine_1 (139, (.if_icmp .ne 13, 3)) (List.mem_of_getElem? (i := 27) rfl)
theorem dX2_combine_142 : decode cX2_combine 142 = .ok (.lload_n 3, 1) := dgX2_combine_1 (142, (.lload_n 3, 1)) (List.mem_of_getElem? (i := 28) rfl)
theorem dX2_combine_143 : decode cX2_combine 143 = .ok (.lload 5, 2) := dgX2_combine_1 (143, (.lload 5, 2)) (List.mem_of_getElem? (i := 29) rfl)
theorem dX2_combine_145 : decode cX2_combine 145 = .ok (.lcmp, 1) := dgX2_combine_1 (145, (.lcmp, 1)) (List.mem_of_getElem? (i := 30) rfl)
theorem dX2_combine_146 : decode cX2_combine 146 = .ok (.ifCond .le 17, 3) := dgX2_combine_1 (146, (.ifCond .le 17, 3)) (List.mem_of_getElem? (i := 31) rfl)
theorem dX2_combine_149 : decode cX2_combine 149 = .ok (.goto 10, 3) := dgX2_combine_1 (149, (.goto 10, 3)) (List.mem_of_getElem? (i := 32) rfl)
theorem dX2_combine_152 : decode cX2_combine 152 = .ok (.lload_n 3, 1) := dgX2_combine_1 (152, (.lload_n 3, 1)) (List.mem_of_getElem? (i := 33) rfl)
theorem dX2_combine_153 : decode cX2_combine 153 = .ok (.lload 5, 2) := dgX2_combine_1 (153, (.lload 5, 2)) (List.mem_of_getElem? (i := 34) rfl)
theorem dX2_combine_155 : decode cX2_combine 155 = .ok (.lcmp, 1) := dgX2_combine_1 (155, (.lcmp, 1)) (List.mem_of_getElem? (i := 35) rfl)
theorem dX2_combine_156 : decode cX2_combine 156 = .ok (.ifCond .ne 7, 3) := dgX2_combine_1 (156, (.ifCond .ne 7, 3)) (List.mem_of_getElem? (i := 36) rfl)
theorem dX2_combine_159 : decode cX2_combine 159 = .ok (.lconst 1, 1) := dgX2_combine_1 (159, (.lconst 1, 1)) (List.mem_of_getElem? (i := 37) rfl)
theorem dX2_combine_160 : decode cX2_combine 160 = .ok (.goto 4, 3) := dgX2_combine_1 (160, (.goto 4, 3)) (List.mem_of_getElem? (i := 38) rfl)
theorem dX2_combine_163 : decode cX2_combine 163 = .ok (.lconst 0, 1) := dgX2_combine_1 (163, (.lconst 0, 1)) (List.mem_of_getElem? (i := 39) rfl)
theorem dgX2_combine_2 : ∀ r ∈ ([(164, (.lstore 7, 2)), (166, (.aload_n 0, 1)), (167, (.getfield 15, 3)), (170, (.iload_n 2, 1)), (171, (.lload 7, 2)), (173, (.lastore, 1)), (174, (.lload 7, 2)), (176, (.ldc2_w 54, 3)), (179, (.lcmp, 1)), (180, (.ifCond .lt 16, 3)), (183, (.lload 7, 2)), (185, (.ldc2_w 56, 3)), (188, (.lcmp, 1)), (189, (.ifCond .gt 7, 3)), (192, (.iconst 1, 1)), (193, (.goto 4, 3)), (196, (.iconst 0, 1)), (197, (.ireturn, 1))] : List (Nat × (Instr × Nat))), decode cX2_combine r.1 = .ok r.2 := by decide +kernel
theorem dX2_combine_164 : decode cX2_combine 164 = .ok (.lstore 7, 2) := dgX2_combine_2 (164, (.lstore 7, 2)) (List.mem_of_getElem? (i := 0) rfl)
theorem dX2_combine_166 : decode cX2_combine 166 = .ok (.aload_n 0, 1) := dgX2_combine_2 (166, (.aload_n 0, 1)) (List.mem_of_getElem? (i := 1) rfl)
theorem dX2_combine_167 : decode cX2_combine 167 = .ok (.getfield 15, 3) := dgX2_combine_2 (167, (.getfield 15, 3)) (List.mem_of_getElem? (i := 2) rfl)
theorem dX2_combine_170 : decode cX2_combine 170 = .ok (.iload_n 2, 1) := dgX2_combine_2 (170, (.iload_n 2, 1)) (List.mem_of_getElem? (i := 3) rfl)
theorem dX2_combine_171 : decode cX2_combine 171 = .ok (.lload 7, 2) := dgX2_combine_2 (171, (.lload 7, 2)) (List.mem_of_getElem? (i := 4) rfl)
theorem dX2_combine_173 : decode cX2_combine 173 = .ok (.lastore, 1) := dgX2_combine_2 (173, (.lastore, 1)) (List.mem_of_getElem? (i := 5) rfl)
theorem dX2_combine_174 : decode cX2_combine 174 = .ok (.lload 7, 2) := dgX2_combine_2 (174, (.lload 7, 2)) (List.mem_of_getElem? (i := 6) rfl)
theorem dX2_combine_176 : decode cX2_combine 176 = .ok (.ldc2_w 54, 3) := dgX2_combine_2 (176, (.ldc2_w 54, 3)) (List.mem_of_getElem? (i := 7) rfl)
theorem dX2_combine_179 : decode cX2_combine 179 = .ok (.lcmp, 1) := dgX2_combine_2 (179, (.lcmp, 1)) (List.mem_of_getElem? (i := 8) rfl)
theorem dX2_combine_180 : decode cX2_combine 180 = .ok (.ifCond .lt 16, 3) := dgX2_combine_2 (180, (.ifCond .lt 16, 3)) (List.mem_of_getElem? (i := 9) rfl)
theorem dX2_combine_183 : decode cX2_combine 183 = .ok (.lload 7, 2) := dgX2_combine_2 (183, (.lload 7, 2)) (List.mem_of_getElem? (i := 10) rfl)
theorem dX2_combine_185 : decode cX2_combine 185 = .ok (.ldc2_w 56, 3) := dgX2_combine_2 (185, (.ldc2_w 56, 3)) (List.mem_of_getElem? (i := 11) rfl)
theorem dX2_combine_188 : decode cX2_combine 188 = .ok (.lcmp, 1) := dgX2_combine_2 (188, (.lcmp, 1)) (List.mem_of_getElem? (i := 12) rfl)
theorem dX2_combine_189 : decode cX2_combine 189 = .ok (.ifCond .gt 7, 3) := dgX2_combine_2 (189, (.ifCond .gt 7, 3)) (List.mem_of_getElem? (i := 13) rfl)
theorem dX2_combine_192 : decode cX2_combine 192 = .ok (.iconst 1, 1) := dgX2_combine_2 (192, (.iconst 1, 1)) (List.mem_of_getElem? (i := 14) rfl)
theorem dX2_combine_193 : decode cX2_combine 193 = .ok (.goto 4, 3) := dgX2_combine_2 (193, (.goto 4, 3)) (List.mem_of_getElem? (i := 15) rfl)
theorem dX2_combine_196 : decode cX2_combine 196 = .ok (.iconst 0, 1) := dgX2_combine_2 (196, (.iconst 0, 1)) (List.mem_of_getElem? (i := 16) rfl)
theorem dX2_combine_197 : decode cX2_combine 197 = .ok (.ireturn, 1) := dgX2_combine_2 (197, (.ireturn, 1)) (List.mem_of_getElem? (i := 17) rfl)
theorem inG_X2 : ∀ w ∈ wsX20, w ∈ tblG := tgs [237, 239] (by decide +kernel) (by decide +kernel)
theorem fl_X2_15 : Cond.fieldLink RX2 15 "LateGlass$Judge" "stack" "[J" ∈ tblG := tg 236 (by decide +kernel) (by decide +kernel)
theorem kl_X2_54 : Cond.constantLong RX2 54 (-1000000000) ∈ tblG := tg 850 (by decide +kernel) (by decide +kernel)
theorem kl_X2_56 : Cond.constantLong RX2 56 1000000000 ∈ tblG := tg 851 (by decide +kernel) (by decide +kernel)
set_option maxHeartbeats 4000000 in
set_option maxRecDepth 100000 in
theorem j_combine (l : Launch) (G : g5_G) (a_j a_sk a_as : Nat) (sz : Nat) (p_o : Int32) (p_p : Int32) (f_sk : Nat → Int64) (h_p_p : (-2) ≤ p_p.toInt ∧ p_p.toInt ≤ 49) : Met l yX2_combine (wsG yX2_combine cX2_combine 9 (some .boolean)) ({ frames := 0, cells := 0, slots := 0, locals := 0 }) (va_Pc [.ref a_j, .int p_o, .int p_p] (g5_P G [(a_j, (oc2 a_as a_sk)), (a_sk, (arJ G 50 f_sk))] sz)) (va_Qi (fun (r : Int32) (u : va_W) => (∃ (o_r : Int32) (o_k : Nat → Int64), (0 ≤ o_r.toInt ∧ o_r.toInt ≤ 1) ∧ (o_r.toInt = 0 ∨ 0 ≤ p_p.toInt) ∧ (r = o_r) ∧ (u = [(a_j, (oc2 a_as a_sk)), (a_sk, (arJ G 50 o_k))]))) (g5_B G (va_A [(a_j, (oc2 a_as a_sk)), (a_sk, (arJ G 50 f_sk))] sz)) (va_A [(a_j, (oc2 a_as a_sk)), (a_sk, (arJ G 50 f_sk))] sz)) 0 0 (va_A [(a_j, (oc2 a_as a_sk)), (a_sk, (arJ G 50 f_sk))] sz) := by
  refine Met.ofW (cc := cX2_combine) (maxL := 9) (ret := (some .boolean)) (by decide +kernel) rfl ?_
  intro p e s m args below meth c s₁ B hml hv
  obtain ⟨rfl, hsz, hP, hK, hD0, hN, hT⟩ := hv
  have hx := B.exec
  have hb := B.bytes
  have hr := B.returns
  have hts : ∀ w ∈ tblG, w.before _ s = true := fun w h => atoms_spec (ws := (wsG yX2_combine cX2_combine 9 (some .boolean))) B.pre w (List.mem_cons_of_mem _ h)
  have hown : s.vm.findClass RX2 = some m.cls := findClass_of_methodNamed B.named
  have hlocks := B.notSynchronized
  subst hsz
  have hD := hD0.self (sz := s.heap.size)
  generalize hAe : va_A [(a_j, (oc2 a_as a_sk)), (a_sk, (arJ G 50 f_sk))] s.heap.size = A at hD hT ⊢
  have hA : ∀ q : Nat, s.heap.size ≤ q → A q := fun q h => by rw [← hAe]; exact Or.inr h
  have hS : va_S A s.heap s.heap [] := va_S.rf
  replace hP : va_P G.1 vwCl [(a_j, (oc2 a_as a_sk)), (a_sk, (arJ G 50 f_sk))] s.heap := hP
  have hl := lv_entry ([.ref a_j, .int p_o, .int p_p]) (n := 9) (Nat.le_of_ble_eq_true rfl)
  rw [lg_entry_eq]
  generalize (lg_sl ([.ref a_j, .int p_o, .int p_p]) ++ List.replicate (9 - (lg_sl ([.ref a_j, .int p_o, .int p_p])).length) Slot.unset).toArray = ls at hl ⊢
  replace hl : lv_has ls 9 [(0, .ref a_j), (1, .int p_o), (2, .int p_p)] := hl
  refine lv_iload_n hx hb dX2_combine_0 rfl (lv_at hl 2 rfl) ?_
  refine lv_if_lt (tgt := 33) hx hb dX2_combine_1 (by decide +kernel) (fun c_1 => ?_) (fun c_1 => ?_)
  ·
    have i_1 : p_p.toInt < 0 := g5_lt (a := p_p.toInt) (b := 0) rfl (by decide +kernel) c_1
    refine lv_iconst (v := 0) hx hb dX2_combine_33 (by decide +kernel) ?_
    exact W.zret (v := 0) hx hb hr rfl (fun t ht hW => ⟨⟨0, [(a_j, (oc2 a_as a_sk)), (a_sk, (arJ G 50 f_sk))], rfl, ⟨0, f_sk, ⟨by have zc_o_r : (0 : Int32).toInt = 0 := (by decide +kernel); omega, by have zc_o_r : (0 : Int32).toInt = 0 := (by decide +kernel); omega⟩, Or.inl (by decide +kernel), rfl, rfl⟩, by rw [ht]; exact hP.sub [0, 1] rfl, hD.sub [0, 1] (by decide +kernel) rfl⟩, hS.F ht⟩) hS.2.2 dX2_combine_34
  ·
    have i_1 : p_p.toInt ≥ 0 := g5_ltN (a := p_p.toInt) (b := 0) rfl (by decide +kernel) c_1
    refine lv_iload_n hx hb dX2_combine_4 rfl (lv_at hl 2 rfl) ?_
    refine lv_iconst (v := 1) hx hb dX2_combine_5 (by decide +kernel) ?_
    refine lv_iadd hx hb dX2_combine_6 ?_
    have t_2 : (p_p + 1).toInt = p_p.toInt + 1 := g5_iadd (a := p_p.toInt) (b := 1) (by rfl) (by decide +kernel) (by omega) (by omega)
    refine lv_aload_n hx hb dX2_combine_7 rfl (lv_at hl 0 rfl) ?_
    refine W.eq (g2 := F0 m 8 ls [.ref a_j, .int (p_p + 1)]) rfl ?_
    refine va_get (D := G.1) (ci := 2) (v := .ref a_sk) (C := RX2) (T := TX2) (N := 2) hx hb hts inG_X2 hown hK hP 0 rfl rfl 1 (by decide +kernel) (hts _ fl_X2_15) (fun _ h9 => h9) rfl dX2_combine_8 ?_
    refine va_alen hx hb hK hP 1 1 rfl rfl (v := 50) (by show Int32.ofNat 50 = 50; decide) dX2_combine_11 ?_
    refine lv_icmp_ge (tgt := 33) hx hb dX2_combine_12 (by decide +kernel) (fun c_3 => ?_) (fun c_3 => ?_)
    ·
      have i_3 : (p_p.toInt + 1) ≥ 50 := by have z := g5_ge (a := (p_p + 1).toInt) (b := 50) (by rfl) (by decide +kernel) c_3; omega
      refine lv_iconst (v := 0) hx hb dX2_combine_33 (by decide +kernel) ?_
      exact W.zret (v := 0) hx hb hr rfl (fun t ht hW => ⟨⟨0, [(a_j, (oc2 a_as a_sk)), (a_sk, (arJ G 50 f_sk))], rfl, ⟨0, f_sk, ⟨by have zc_o_r : (0 : Int32).toInt = 0 := (by decide +kernel); omega, by have zc_o_r : (0 : Int32).toInt = 0 := (by decide +kernel); omega⟩, Or.inl (by decide +kernel), rfl, rfl⟩, by rw [ht]; exact hP.sub [0, 1] rfl, hD.sub [0, 1] (by decide +kernel) rfl⟩, hS.F ht⟩) hS.2.2 dX2_combine_34
    ·
      have i_3 : (p_p.toInt + 1) < 50 := by have z := g5_geN (a := (p_p + 1).toInt) (b := 50) (by rfl) (by decide +kernel) c_3; omega
      refine lv_iload_n hx hb dX2_combine_15 rfl (lv_at hl 1 rfl) ?_
      refine lv_iconst (v := 5) hx hb dX2_combine_16 (by decide +kernel) ?_
      refine lv_icmp_ne (tgt := 35) hx hb dX2_combine_17 (by decide +kernel) (fun c_4 => ?_) (fun c_4 => ?_)
      ·
        have n_4 : gNe (p_o.toInt) (5) := g5_ne (a := p_o.toInt) (b := 5) rfl (by decide +kernel) c_4
        refine lv_aload_n hx hb dX2_combine_35 rfl (lv_at hl 0 rfl) ?_
        refine va_get (D := G.1) (ci := 2) (v := .ref a_sk) (C := RX2) (T := TX2) (N := 2) hx hb hts inG_X2 hown hK hP 0 rfl rfl 1 (by decide +kernel) (hts _ fl_X2_15) (fun _ h9 => h9) rfl dX2_combine_36 ?_
        refine lv_iload_n hx hb dX2_combine_39 rfl (lv_at hl 2 rfl) ?_
        refine va_lald hx hb hK hP 1 1 rfl rfl (i := p_p) (vp_in_iff.mpr ⟨by omega, by omega⟩) dX2_combine_40 ?_
        refine W.eq (g2 := F0 m 41 ls [.long (f_sk p_p.toNatClampNeg)]) rfl ?_
        refine lv_lstore_n (lv' := [(3, .long (f_sk p_p.toNatClampNeg)), (0, .ref a_j), (1, .int p_o), (2, .int p_p)]) hx hb dX2_combine_41 rfl hl (by decide +kernel) rfl ?_
        clear hl
        intro ls hl
        refine lv_aload_n hx hb dX2_combine_42 rfl (lv_at hl 1 rfl) ?_
        refine va_get (D := G.1) (ci := 2) (v := .ref a_sk) (C := RX2) (T := TX2) (N := 2) hx hb hts inG_X2 hown hK hP 0 rfl rfl 1 (by decide +kernel) (hts _ fl_X2_15) (fun _ h9 => h9) rfl dX2_combine_43 ?_
        refine lv_iload_n hx hb dX2_combine_46 rfl (lv_at hl 3 rfl) ?_
        refine lv_iconst (v := 1) hx hb dX2_combine_47 (by decide +kernel) ?_
        refine W.eq (g2 := F0 m 48 ls [.int 1, .int p_p, .ref a_sk]) rfl ?_
        refine lv_iadd hx hb dX2_combine_48 ?_
        have t_5 : (p_p + 1).toInt = p_p.toInt + 1 := g5_iadd (a := p_p.toInt) (b := 1) (by rfl) (by decide +kernel) (by omega) (by omega)
        refine va_lald hx hb hK hP 1 1 rfl rfl (i := (p_p + 1)) (vp_in_iff.mpr ⟨by omega, by omega⟩) dX2_combine_49 ?_
        refine lv_lstore (lv' := [(5, .long (f_sk (p_p + 1).toNatClampNeg)), (3, .long (f_sk p_p.toNatClampNeg)), (0, .ref a_j), (1, .int p_o), (2, .int p_p)]) hx hb dX2_combine_50 hl (by decide +kernel) rfl ?_
        clear hl
        intro ls hl
        refine lv_iload_n hx hb dX2_combine_52 rfl (lv_at hl 3 rfl) ?_
        rcases (show p_o.toInt = 2 ∨ p_o.toInt = 3 ∨ p_o.toInt = 4 ∨ p_o.toInt = 5 ∨ p_o.toInt < 2 ∨ p_o.toInt > 5 by omega) with s_6 | s_6 | s_6 | s_6 | s_6 | s_6
        ·
          have i_6 : p_o.toInt = 2 := by omega
          refine lv_tableIn (tgt := 84) hx hb dX2_combine_53 (by omega) (by omega) (by rw [s_6]; rfl) (by decide +kernel) ?_
          refine lv_lload_n hx hb dX2_combine_84 rfl (lv_at hl 1 rfl) ?_
          refine lv_lload hx hb dX2_combine_85 (lv_at hl 0 rfl) ?_
          refine lv_ladd hx hb dX2_combine_87 ?_
          refine lv_lstore (lv' := [(7, .long ((f_sk p_p.toNatClampNeg) + (f_sk (p_p + 1).toNatClampNeg))), (5, .long (f_sk (p_p + 1).toNatClampNeg)), (3, .long (f_sk p_p.toNatClampNeg)), (0, .ref a_j), (1, .int p_o), (2, .int p_p)]) hx hb dX2_combine_88 hl (by decide +kernel) rfl ?_
          clear hl
          intro ls hl
          refine W.eq (g2 := F0 m 90 ls []) rfl ?_
          refine lv_goto (tgt := 166) hx hb dX2_combine_90 (by decide +kernel) ?_
          refine lv_aload_n hx hb dX2_combine_166 rfl (lv_at hl 3 rfl) ?_
          refine va_get (D := G.1) (ci := 2) (v := .ref a_sk) (C := RX2) (T := TX2) (N := 2) hx hb hts inG_X2 hown hK hP 0 rfl rfl 1 (by decide +kernel) (hts _ fl_X2_15) (fun _ h9 => h9) rfl dX2_combine_167 ?_
          refine lv_iload_n hx hb dX2_combine_170 rfl (lv_at hl 5 rfl) ?_
          refine lv_lload hx hb dX2_combine_171 (lv_at hl 0 rfl) ?_
          refine W.eq (g2 := F0 m 173 ls [.long ((f_sk p_p.toNatClampNeg) + (f_sk (p_p + 1).toNatClampNeg)), .int p_p, .ref a_sk]) rfl ?_
          refine va_last hx hb hK hP hD hS 1 1 rfl rfl (i := p_p) (x := ((f_sk p_p.toNatClampNeg) + (f_sk (p_p + 1).toNatClampNeg))) (vp_in_iff.mpr ⟨by omega, by omega⟩) dX2_combine_173 ?_
          clear hP hD hS
          intro H locs hP hD hS
          refine g5_rs [(a_j, (oc2 a_as a_sk)), (a_sk, (arJ G 50 (vp_updL f_sk p_p.toNatClampNeg ((f_sk p_p.toNatClampNeg) + (f_sk (p_p + 1).toNatClampNeg)))))] hP hD ?_
          clear hP hD
          intro hP hD
          refine lv_lload hx hb dX2_combine_174 (lv_at hl 0 rfl) ?_
          refine lv_ldc2 (v := (-1000000000)) hx hb hown (hts _ kl_X2_54) dX2_combine_176 ?_
          refine W.lcmp hx hb dX2_combine_179 ?_
          refine lv_if_lt (tgt := 196) hx hb dX2_combine_180 (by decide +kernel) (fun c_7 => ?_) (fun c_7 => ?_)
          ·
            have i_7 : (lg_cmp ((f_sk p_p.toNatClampNeg) + (f_sk (p_p + 1).toNatClampNeg)) (-1000000000)).toInt < 0 := g5_lt (a := (lg_cmp ((f_sk p_p.toNatClampNeg) + (f_sk (p_p + 1).toNatClampNeg)) (-1000000000)).toInt) (b := 0) rfl (by decide +kernel) c_7
            refine lv_iconst (v := 0) hx hb dX2_combine_196 (by decide +kernel) ?_
            exact W.zret (v := 0) hx hb hr rfl (fun t ht hW => ⟨⟨0, [(a_j, (oc2 a_as a_sk)), (a_sk, (arJ G 50 (vp_updL f_sk p_p.toNatClampNeg ((f_sk p_p.toNatClampNeg) + (f_sk (p_p + 1).toNatClampNeg)))))], rfl, ⟨0, (vp_updL f_sk p_p.toNatClampNeg ((f_sk p_p.toNatClampNeg) + (f_sk (p_p + 1).toNatClampNeg))), ⟨by have zc_o_r : (0 : Int32).toInt = 0 := (by decide +kernel); omega, by have zc_o_r : (0 : Int32).toInt = 0 := (by decide +kernel); omega⟩, Or.inl (by decide +kernel), rfl, rfl⟩, by rw [ht]; exact hP.sub [0, 1] rfl, hD.sub [0, 1] (by decide +kernel) rfl⟩, hS.F ht⟩) hS.2.2 dX2_combine_197
          ·
            have i_7 : (lg_cmp ((f_sk p_p.toNatClampNeg) + (f_sk (p_p + 1).toNatClampNeg)) (-1000000000)).toInt ≥ 0 := g5_ltN (a := (lg_cmp ((f_sk p_p.toNatClampNeg) + (f_sk (p_p + 1).toNatClampNeg)) (-1000000000)).toInt) (b := 0) rfl (by decide +kernel) c_7
            refine lv_lload hx hb dX2_combine_183 (lv_at hl 0 rfl) ?_
            refine lv_ldc2 (v := 1000000000) hx hb hown (hts _ kl_X2_56) dX2_combine_185 ?_
            refine W.lcmp hx hb dX2_combine_188 ?_
            refine lv_if_gt (tgt := 196) hx hb dX2_combine_189 (by decide +kernel) (fun c_8 => ?_) (fun c_8 => ?_)
            ·
              have i_8 : (lg_cmp ((f_sk p_p.toNatClampNeg) + (f_sk (p_p + 1).toNatClampNeg)) 1000000000).toInt > 0 := g5_gt (a := (lg_cmp ((f_sk p_p.toNatClampNeg) + (f_sk (p_p + 1).toNatClampNeg)) 1000000000).toInt) (b := 0) rfl (by decide +kernel) c_8
              refine lv_iconst (v := 0) hx hb dX2_combine_196 (by decide +kernel) ?_
              exact W.zret (v := 0) hx hb hr rfl (fun t ht hW => ⟨⟨0, [(a_j, (oc2 a_as a_sk)), (a_sk, (arJ G 50 (vp_updL f_sk p_p.toNatClampNeg ((f_sk p_p.toNatClampNeg) + (f_sk (p_p + 1).toNatClampNeg)))))], rfl, ⟨0, (vp_updL f_sk p_p.toNatClampNeg ((f_sk p_p.toNatClampNeg) + (f_sk (p_p + 1).toNatClampNeg))), ⟨by have zc_o_r : (0 : Int32).toInt = 0 := (by decide +kernel); omega, by have zc_o_r : (0 : Int32).toInt = 0 := (by decide +kernel); omega⟩, Or.inl (by decide +kernel), rfl, rfl⟩, by rw [ht]; exact hP.sub [0, 1] rfl, hD.sub [0, 1] (by decide +kernel) rfl⟩, hS.F ht⟩) hS.2.2 dX2_combine_197
            ·
              have i_8 : (lg_cmp ((f_sk p_p.toNatClampNeg) + (f_sk (p_p + 1).toNatClampNeg)) 1000000000).toInt ≤ 0 := g5_gtN (a := (lg_cmp ((f_sk p_p.toNatClampNeg) + (f_sk (p_p + 1).toNatClampNeg)) 1000000000).toInt) (b := 0) rfl (by decide +kernel) c_8
              refine lv_iconst (v := 1) hx hb dX2_combine_192 (by decide +kernel) ?_
              refine lv_goto (tgt := 197) hx hb dX2_combine_193 (by decide +kernel) ?_
              exact W.zret (v := 1) hx hb hr rfl (fun t ht hW => ⟨⟨1, [(a_j, (oc2 a_as a_sk)), (a_sk, (arJ G 50 (vp_updL f_sk p_p.toNatClampNeg ((f_sk p_p.toNatClampNeg) + (f_sk (p_p + 1).toNatClampNeg)))))], rfl, ⟨1, (vp_updL f_sk p_p.toNatClampNeg ((f_sk p_p.toNatClampNeg) + (f_sk (p_p + 1).toNatClampNeg))), ⟨by have zc_o_r : (1 : Int32).toInt = 1 := (by decide +kernel); omega, by have zc_o_r : (1 : Int32).toInt = 1 := (by decide +kernel); omega⟩, Or.inr (by omega), rfl, rfl⟩, by rw [ht]; exact hP.sub [0, 1] rfl, hD.sub [0, 1] (by decide +kernel) rfl⟩, hS.F ht⟩) hS.2.2 dX2_combine_197
        ·
          have i_6 : p_o.toInt = 3 := by omega
          refine lv_tableIn (tgt := 93) hx hb dX2_combine_53 (by omega) (by omega) (by rw [s_6]; rfl) (by decide +kernel) ?_
          refine lv_lload_n hx hb dX2_combine_93 rfl (lv_at hl 1 rfl) ?_
          refine lv_lload hx hb dX2_combine_94 (lv_at hl 0 rfl) ?_
          refine lv_lsub hx hb dX2_combine_96 ?_
          refine lv_lstore (lv' := [(7, .long ((f_sk p_p.toNatClampNeg) - (f_sk (p_p + 1).toNatClampNeg))), (5, .long (f_sk (p_p + 1).toNatClampNeg)), (3, .long (f_sk p_p.toNatClampNeg)), (0, .ref a_j), (1, .int p_o), (2, .int p_p)]) hx hb dX2_combine_97 hl (by decide +kernel) rfl ?_
          clear hl
          intro ls hl
          refine W.eq (g2 := F0 m 99 ls []) rfl ?_
          refine lv_goto (tgt := 166) hx hb dX2_combine_99 (by decide +kernel) ?_
          refine lv_aload_n hx hb dX2_combine_166 rfl (lv_at hl 3 rfl) ?_
          refine va_get (D := G.1) (ci := 2) (v := .ref a_sk) (C := RX2) (T := TX2) (N := 2) hx hb hts inG_X2 hown hK hP 0 rfl rfl 1 (by decide +kernel) (hts _ fl_X2_15) (fun _ h9 => h9) rfl dX2_combine_167 ?_
          refine lv_iload_n hx hb dX2_combine_170 rfl (lv_at hl 5 rfl) ?_
          refine lv_lload hx hb dX2_combine_171 (lv_at hl 0 rfl) ?_
          refine W.eq (g2 := F0 m 173 ls [.long ((f_sk p_p.toNatClampNeg) - (f_sk (p_p + 1).toNatClampNeg)), .int p_p, .ref a_sk]) rfl ?_
          refine va_last hx hb hK hP hD hS 1 1 rfl rfl (i := p_p) (x := ((f_sk p_p.toNatClampNeg) - (f_sk (p_p + 1).toNatClampNeg))) (vp_in_iff.mpr ⟨by omega, by omega⟩) dX2_combine_173 ?_
          clear hP hD hS
          intro H locs hP hD hS
          refine g5_rs [(a_j, (oc2 a_as a_sk)), (a_sk, (arJ G 50 (vp_updL f_sk p_p.toNatClampNeg ((f_sk p_p.toNatClampNeg) - (f_sk (p_p + 1).toNatClampNeg)))))] hP hD ?_
          clear hP hD
          intro hP hD
          refine lv_lload hx hb dX2_combine_174 (lv_at hl 0 rfl) ?_
          refine lv_ldc2 (v := (-1000000000)) hx hb hown (hts _ kl_X2_54) dX2_combine_176 ?_
          refine W.lcmp hx hb dX2_combine_179 ?_
          refine lv_if_lt (tgt := 196) hx hb dX2_combine_180 (by decide +kernel) (fun c_9 => ?_) (fun c_9 => ?_)
          ·
            have i_9 : (lg_cmp ((f_sk p_p.toNatClampNeg) - (f_sk (p_p + 1).toNatClampNeg)) (-1000000000)).toInt < 0 := g5_lt (a := (lg_cmp ((f_sk p_p.toNatClampNeg) - (f_sk (p_p + 1).toNatClampNeg)) (-1000000000)).toInt) (b := 0) rfl (by decide +kernel) c_9
            refine lv_iconst (v := 0) hx hb dX2_combine_196 (by decide +kernel) ?_
            exact W.zret (v := 0) hx hb hr rfl (fun t ht hW => ⟨⟨0, [(a_j, (oc2 a_as a_sk)), (a_sk, (arJ G 50 (vp_updL f_sk p_p.toNatClampNeg ((f_sk p_p.toNatClampNeg) - (f_sk (p_p + 1).toNatClampNeg)))))], rfl, ⟨0, (vp_updL f_sk p_p.toNatClampNeg ((f_sk p_p.toNatClampNeg) - (f_sk (p_p + 1).toNatClampNeg))), ⟨by have zc_o_r : (0 : Int32).toInt = 0 := (by decide +kernel); omega, by have zc_o_r : (0 : Int32).toInt = 0 := (by decide +kernel); omega⟩, Or.inl (by decide +kernel), rfl, rfl⟩, by rw [ht]; exact hP.sub [0, 1] rfl, hD.sub [0, 1] (by decide +kernel) rfl⟩, hS.F ht⟩) hS.2.2 dX2_combine_197
          ·
            have i_9 : (lg_cmp ((f_sk p_p.toNatClampNeg) - (f_sk (p_p + 1).toNatClampNeg)) (-1000000000)).toInt ≥ 0 := g5_ltN (a := (lg_cmp ((f_sk p_p.toNatClampNeg) - (f_sk (p_p + 1).toNatClampNeg)) (-1000000000)).toInt) (b := 0) rfl (by decide +kernel) c_9
            refine lv_lload hx hb dX2_combine_183 (lv_at hl 0 rfl) ?_
            refine lv_ldc2 (v := 1000000000) hx hb hown (hts _ kl_X2_56) dX2_combine_185 ?_
            refine W.lcmp hx hb dX2_combine_188 ?_
            refine lv_if_gt (tgt := 196) hx hb dX2_combine_189 (by decide +kernel) (fun c_10 => ?_) (fun c_10 => ?_)
            ·
              have i_10 : (lg_cmp ((f_sk p_p.toNatClampNeg) - (f_sk (p_p + 1).toNatClampNeg)) 1000000000).toInt > 0 := g5_gt (a := (lg_cmp ((f_sk p_p.toNatClampNeg) - (f_sk (p_p + 1).toNatClampNeg)) 1000000000).toInt) (b := 0) rfl (by decide +kernel) c_10
              refine lv_iconst (v := 0) hx hb dX2_combine_196 (by decide +kernel) ?_
              exact W.zret (v := 0) hx hb hr rfl (fun t ht hW => ⟨⟨0, [(a_j, (oc2 a_as a_sk)), (a_sk, (arJ G 50 (vp_updL f_sk p_p.toNatClampNeg ((f_sk p_p.toNatClampNeg) - (f_sk (p_p + 1).toNatClampNeg)))))], rfl, ⟨0, (vp_updL f_sk p_p.toNatClampNeg ((f_sk p_p.toNatClampNeg) - (f_sk (p_p + 1).toNatClampNeg))), ⟨by have zc_o_r : (0 : Int32).toInt = 0 := (by decide +kernel); omega, by have zc_o_r : (0 : Int32).toInt = 0 := (by decide +kernel); omega⟩, Or.inl (by decide +kernel), rfl, rfl⟩, by rw [ht]; exact hP.sub [0, 1] rfl, hD.sub [0, 1] (by decide +kernel) rfl⟩, hS.F ht⟩) hS.2.2 dX2_combine_197
            ·
              have i_10 : (lg_cmp ((f_sk p_p.toNatClampNeg) - (f_sk (p_p + 1).toNatClampNeg)) 1000000000).toInt ≤ 0 := g5_gtN (a := (lg_cmp ((f_sk p_p.toNatClampNeg) - (f_sk (p_p + 1).toNatClampNeg)) 1000000000).toInt) (b := 0) rfl (by decide +kernel) c_10
              refine lv_iconst (v := 1) hx hb dX2_combine_192 (by decide +kernel) ?_
              refine lv_goto (tgt := 197) hx hb dX2_combine_193 (by decide +kernel) ?_
              exact W.zret (v := 1) hx hb hr rfl (fun t ht hW => ⟨⟨1, [(a_j, (oc2 a_as a_sk)), (a_sk, (arJ G 50 (vp_updL f_sk p_p.toNatClampNeg ((f_sk p_p.toNatClampNeg) - (f_sk (p_p + 1).toNatClampNeg)))))], rfl, ⟨1, (vp_updL f_sk p_p.toNatClampNeg ((f_sk p_p.toNatClampNeg) - (f_sk (p_p + 1).toNatClampNeg))), ⟨by have zc_o_r : (1 : Int32).toInt = 1 := (by decide +kernel); omega, by have zc_o_r : (1 : Int32).toInt = 1 := (by decide +kernel); omega⟩, Or.inr (by omega), rfl, rfl⟩, by rw [ht]; exact hP.sub [0, 1] rfl, hD.sub [0, 1] (by decide +kernel) rfl⟩, hS.F ht⟩) hS.2.2 dX2_combine_197
        ·
          have i_6 : p_o.toInt = 4 := by omega
          refine lv_tableIn (tgt := 102) hx hb dX2_combine_53 (by omega) (by omega) (by rw [s_6]; rfl) (by decide +kernel) ?_
          refine lv_lload_n hx hb dX2_combine_102 rfl (lv_at hl 1 rfl) ?_
          refine lv_lload hx hb dX2_combine_103 (lv_at hl 0 rfl) ?_
          refine lv_lmul hx hb dX2_combine_105 ?_
          refine lv_lstore (lv' := [(7, .long ((f_sk p_p.toNatClampNeg) * (f_sk (p_p + 1).toNatClampNeg))), (5, .long (f_sk (p_p + 1).toNatClampNeg)), (3, .long (f_sk p_p.toNatClampNeg)), (0, .ref a_j), (1, .int p_o), (2, .int p_p)]) hx hb dX2_combine_106 hl (by decide +kernel) rfl ?_
          clear hl
          intro ls hl
          refine W.eq (g2 := F0 m 108 ls []) rfl ?_
          refine lv_goto (tgt := 166) hx hb dX2_combine_108 (by decide +kernel) ?_
          refine lv_aload_n hx hb dX2_combine_166 rfl (lv_at hl 3 rfl) ?_
          refine va_get (D := G.1) (ci := 2) (v := .ref a_sk) (C := RX2) (T := TX2) (N := 2) hx hb hts inG_X2 hown hK hP 0 rfl rfl 1 (by decide +kernel) (hts _ fl_X2_15) (fun _ h9 => h9) rfl dX2_combine_167 ?_
          refine lv_iload_n hx hb dX2_combine_170 rfl (lv_at hl 5 rfl) ?_
          refine lv_lload hx hb dX2_combine_171 (lv_at hl 0 rfl) ?_
          refine W.eq (g2 := F0 m 173 ls [.long ((f_sk p_p.toNatClampNeg) * (f_sk (p_p + 1).toNatClampNeg)), .int p_p, .ref a_sk]) rfl ?_
          refine va_last hx hb hK hP hD hS 1 1 rfl rfl (i := p_p) (x := ((f_sk p_p.toNatClampNeg) * (f_sk (p_p + 1).toNatClampNeg))) (vp_in_iff.mpr ⟨by omega, by omega⟩) dX2_combine_173 ?_
          clear hP hD hS
          intro H locs hP hD hS
          refine g5_rs [(a_j, (oc2 a_as a_sk)), (a_sk, (arJ G 50 (vp_updL f_sk p_p.toNatClampNeg ((f_sk p_p.toNatClampNeg) * (f_sk (p_p + 1).toNatClampNeg)))))] hP hD ?_
          clear hP hD
          intro hP hD
          refine lv_lload hx hb dX2_combine_174 (lv_at hl 0 rfl) ?_
          refine lv_ldc2 (v := (-1000000000)) hx hb hown (hts _ kl_X2_54) dX2_combine_176 ?_
          refine W.lcmp hx hb dX2_combine_179 ?_
          refine lv_if_lt (tgt := 196) hx hb dX2_combine_180 (by decide +kernel) (fun c_11 => ?_) (fun c_11 => ?_)
          ·
            have i_11 : (lg_cmp ((f_sk p_p.toNatClampNeg) * (f_sk (p_p + 1).toNatClampNeg)) (-1000000000)).toInt < 0 := g5_lt (a := (lg_cmp ((f_sk p_p.toNatClampNeg) * (f_sk (p_p + 1).toNatClampNeg)) (-1000000000)).toInt) (b := 0) rfl (by decide +kernel) c_11
            refine lv_iconst (v := 0) hx hb dX2_combine_196 (by decide +kernel) ?_
            exact W.zret (v := 0) hx hb hr rfl (fun t ht hW => ⟨⟨0, [(a_j, (oc2 a_as a_sk)), (a_sk, (arJ G 50 (vp_updL f_sk p_p.toNatClampNeg ((f_sk p_p.toNatClampNeg) * (f_sk (p_p + 1).toNatClampNeg)))))], rfl, ⟨0, (vp_updL f_sk p_p.toNatClampNeg ((f_sk p_p.toNatClampNeg) * (f_sk (p_p + 1).toNatClampNeg))), ⟨by have zc_o_r : (0 : Int32).toInt = 0 := (by decide +kernel); omega, by have zc_o_r : (0 : Int32).toInt = 0 := (by decide +kernel); omega⟩, Or.inl (by decide +kernel), rfl, rfl⟩, by rw [ht]; exact hP.sub [0, 1] rfl, hD.sub [0, 1] (by decide +kernel) rfl⟩, hS.F ht⟩) hS.2.2 dX2_combine_197
          ·
            have i_11 : (lg_cmp ((f_sk p_p.toNatClampNeg) * (f_sk (p_p + 1).toNatClampNeg)) (-1000000000)).toInt ≥ 0 := g5_ltN (a := (lg_cmp ((f_sk p_p.toNatClampNeg) * (f_sk (p_p + 1).toNatClampNeg)) (-1000000000)).toInt) (b := 0) rfl (by decide +kernel) c_11
            refine lv_lload hx hb dX2_combine_183 (lv_at hl 0 rfl) ?_
            refine lv_ldc2 (v := 1000000000) hx hb hown (hts _ kl_X2_56) dX2_combine_185 ?_
            refine W.lcmp hx hb dX2_combine_188 ?_
            refine lv_if_gt (tgt := 196) hx hb dX2_combine_189 (by decide +kernel) (fun c_12 => ?_) (fun c_12 => ?_)
            ·
              have i_12 : (lg_cmp ((f_sk p_p.toNatClampNeg) * (f_sk (p_p + 1).toNatClampNeg)) 1000000000).toInt > 0 := g5_gt (a := (lg_cmp ((f_sk p_p.toNatClampNeg) * (f_sk (p_p + 1).toNatClampNeg)) 1000000000).toInt) (b := 0) rfl (by decide +kernel) c_12
              refine lv_iconst (v := 0) hx hb dX2_combine_196 (by decide +kernel) ?_
              exact W.zret (v := 0) hx hb hr rfl (fun t ht hW => ⟨⟨0, [(a_j, (oc2 a_as a_sk)), (a_sk, (arJ G 50 (vp_updL f_sk p_p.toNatClampNeg ((f_sk p_p.toNatClampNeg) * (f_sk (p_p + 1).toNatClampNeg)))))], rfl, ⟨0, (vp_updL f_sk p_p.toNatClampNeg ((f_sk p_p.toNatClampNeg) * (f_sk (p_p + 1).toNatClampNeg))), ⟨by have zc_o_r : (0 : Int32).toInt = 0 := (by decide +kernel); omega, by have zc_o_r : (0 : Int32).toInt = 0 := (by decide +kernel); omega⟩, Or.inl (by decide +kernel), rfl, rfl⟩, by rw [ht]; exact hP.sub [0, 1] rfl, hD.sub [0, 1] (by decide +kernel) rfl⟩, hS.F ht⟩) hS.2.2 dX2_combine_197
            ·
              have i_12 : (lg_cmp ((f_sk p_p.toNatClampNeg) * (f_sk (p_p + 1).toNatClampNeg)) 1000000000).toInt ≤ 0 := g5_gtN (a := (lg_cmp ((f_sk p_p.toNatClampNeg) * (f_sk (p_p + 1).toNatClampNeg)) 1000000000).toInt) (b := 0) rfl (by decide +kernel) c_12
              refine lv_iconst (v := 1) hx hb dX2_combine_192 (by decide +kernel) ?_
              refine lv_goto (tgt := 197) hx hb dX2_combine_193 (by decide +kernel) ?_
              exact W.zret (v := 1) hx hb hr rfl (fun t ht hW => ⟨⟨1, [(a_j, (oc2 a_as a_sk)), (a_sk, (arJ G 50 (vp_updL f_sk p_p.toNatClampNeg ((f_sk p_p.toNatClampNeg) * (f_sk (p_p + 1).toNatClampNeg)))))], rfl, ⟨1, (vp_updL f_sk p_p.toNatClampNeg ((f_sk p_p.toNatClampNeg) * (f_sk (p_p + 1).toNatClampNeg))), ⟨by have zc_o_r : (1 : Int32).toInt = 1 := (by decide +kernel); omega, by have zc_o_r : (1 : Int32).toInt = 1 := (by decide +kernel); omega⟩, Or.inr (by omega), rfl, rfl⟩, by rw [ht]; exact hP.sub [0, 1] rfl, hD.sub [0, 1] (by decide +kernel) rfl⟩, hS.F ht⟩) hS.2.2 dX2_combine_197
        ·
          have i_6 : p_o.toInt = 5 := by omega
          refine lv_tableIn (tgt := 111) hx hb dX2_combine_53 (by omega) (by omega) (by rw [s_6]; rfl) (by decide +kernel) ?_
          exact absurd i_6 n_4
        ·
          have i_6 : p_o.toInt < 2 := by omega
          refine lv_tableOut (tgt := 120) hx hb dX2_combine_53 (by omega) (by decide +kernel) ?_
          refine lv_iload_n hx hb dX2_combine_120 rfl (lv_at hl 3 rfl) ?_
          refine lv_bipush (v := 6) hx hb dX2_combine_121 (by decide +kernel) ?_
          refine lv_icmp_ne (tgt := 136) hx hb dX2_combine_123 (by decide +kernel) (fun c_13 => ?_) (fun c_13 => ?_)
          ·
            have n_13 : gNe (p_o.toInt) (6) := g5_ne (a := p_o.toInt) (b := 6) rfl (by decide +kernel) c_13
            refine lv_iload_n hx hb dX2_combine_136 rfl (lv_at hl 3 rfl) ?_
            refine lv_bipush (v := 7) hx hb dX2_combine_137 (by decide +kernel) ?_
            refine lv_icmp_ne (tgt := 152) hx hb dX2_combine_139 (by decide +kernel) (fun c_14 => ?_) (fun c_14 => ?_)
            ·
              have n_14 : gNe (p_o.toInt) (7) := g5_ne (a := p_o.toInt) (b := 7) rfl (by decide +kernel) c_14
              refine lv_lload_n hx hb dX2_combine_152 rfl (lv_at hl 1 rfl) ?_
              refine lv_lload hx hb dX2_combine_153 (lv_at hl 0 rfl) ?_
              refine W.lcmp hx hb dX2_combine_155 ?_
              refine lv_if_ne (tgt := 163) hx hb dX2_combine_156 (by decide +kernel) (fun c_15 => ?_) (fun c_15 => ?_)
              ·
                have n_15 : gNe ((lg_cmp (f_sk p_p.toNatClampNeg) (f_sk (p_p + 1).toNatClampNeg)).toInt) (0) := g5_ne (a := (lg_cmp (f_sk p_p.toNatClampNeg) (f_sk (p_p + 1).toNatClampNeg)).toInt) (b := 0) rfl (by decide +kernel) c_15
                refine lv_lconst (v := 0) hx hb dX2_combine_163 (by decide +kernel) ?_
                refine lv_lstore (lv' := [(7, .long 0), (5, .long (f_sk (p_p + 1).toNatClampNeg)), (3, .long (f_sk p_p.toNatClampNeg)), (0, .ref a_j), (1, .int p_o), (2, .int p_p)]) hx hb dX2_combine_164 hl (by decide +kernel) rfl ?_
                clear hl
                intro ls hl
                refine lv_aload_n hx hb dX2_combine_166 rfl (lv_at hl 3 rfl) ?_
                refine va_get (D := G.1) (ci := 2) (v := .ref a_sk) (C := RX2) (T := TX2) (N := 2) hx hb hts inG_X2 hown hK hP 0 rfl rfl 1 (by decide +kernel) (hts _ fl_X2_15) (fun _ h9 => h9) rfl dX2_combine_167 ?_
                refine W.eq (g2 := F0 m 170 ls [.ref a_sk]) rfl ?_
                refine lv_iload_n hx hb dX2_combine_170 rfl (lv_at hl 5 rfl) ?_
                refine lv_lload hx hb dX2_combine_171 (lv_at hl 0 rfl) ?_
                refine va_last hx hb hK hP hD hS 1 1 rfl rfl (i := p_p) (x := 0) (vp_in_iff.mpr ⟨by omega, by omega⟩) dX2_combine_173 ?_
                clear hP hD hS
                intro H locs hP hD hS
                refine g5_rs [(a_j, (oc2 a_as a_sk)), (a_sk, (arJ G 50 (vp_updL f_sk p_p.toNatClampNeg 0)))] hP hD ?_
                clear hP hD
                intro hP hD
                refine lv_lload hx hb dX2_combine_174 (lv_at hl 0 rfl) ?_
                refine lv_ldc2 (v := (-1000000000)) hx hb hown (hts _ kl_X2_54) dX2_combine_176 ?_
                refine W.eq (g2 := F0 m 179 ls [.long (-1000000000), .long 0]) rfl ?_
                refine W.lcmp hx hb dX2_combine_179 ?_
                refine g5_ti (v := 1) (by decide +kernel) ?_
                refine lv_if_lt (tgt := 196) hx hb dX2_combine_180 (by decide +kernel) (fun c_16 => ?_) (fun c_16 => ?_)
                ·
                  exact absurd c_16 (by decide +kernel)
                ·
                  refine lv_lload hx hb dX2_combine_183 (lv_at hl 0 rfl) ?_
                  refine lv_ldc2 (v := 1000000000) hx hb hown (hts _ kl_X2_56) dX2_combine_185 ?_
                  refine W.lcmp hx hb dX2_combine_188 ?_
                  refine g5_ti (v := (-1)) (by decide +kernel) ?_
                  refine lv_if_gt (tgt := 196) hx hb dX2_combine_189 (by decide +kernel) (fun c_17 => ?_) (fun c_17 => ?_)
                  ·
                    exact absurd c_17 (by decide +kernel)
                  ·
                    refine lv_iconst (v := 1) hx hb dX2_combine_192 (by decide +kernel) ?_
                    refine lv_goto (tgt := 197) hx hb dX2_combine_193 (by decide +kernel) ?_
                    exact W.zret (v := 1) hx hb hr rfl (fun t ht hW => ⟨⟨1, [(a_j, (oc2 a_as a_sk)), (a_sk, (arJ G 50 (vp_updL f_sk p_p.toNatClampNeg 0)))], rfl, ⟨1, (vp_updL f_sk p_p.toNatClampNeg 0), ⟨by have zc_o_r : (1 : Int32).toInt = 1 := (by decide +kernel); omega, by have zc_o_r : (1 : Int32).toInt = 1 := (by decide +kernel); omega⟩, Or.inr (by omega), rfl, rfl⟩, by rw [ht]; exact hP.sub [0, 1] rfl, hD.sub [0, 1] (by decide +kernel) rfl⟩, hS.F ht⟩) hS.2.2 dX2_combine_197
              ·
                have i_15 : (lg_cmp (f_sk p_p.toNatClampNeg) (f_sk (p_p + 1).toNatClampNeg)).toInt = 0 := g5_neN (a := (lg_cmp (f_sk p_p.toNatClampNeg) (f_sk (p_p + 1).toNatClampNeg)).toInt) (b := 0) rfl (by decide +kernel) c_15
                refine lv_lconst (v := 1) hx hb dX2_combine_159 (by decide +kernel) ?_
                refine lv_goto (tgt := 164) hx hb dX2_combine_160 (by decide +kernel) ?_
                refine lv_lstore (lv' := [(7, .long 1), (5, .long (f_sk (p_p + 1).toNatClampNeg)), (3, .long (f_sk p_p.toNatClampNeg)), (0, .ref a_j), (1, .int p_o), (2, .int p_p)]) hx hb dX2_combine_164 hl (by decide +kernel) rfl ?_
                clear hl
                intro ls hl
                refine lv_aload_n hx hb dX2_combine_166 rfl (lv_at hl 3 rfl) ?_
                refine W.eq (g2 := F0 m 167 ls [.ref a_j]) rfl ?_
                refine va_get (D := G.1) (ci := 2) (v := .ref a_sk) (C := RX2) (T := TX2) (N := 2) hx hb hts inG_X2 hown hK hP 0 rfl rfl 1 (by decide +kernel) (hts _ fl_X2_15) (fun _ h9 => h9) rfl dX2_combine_167 ?_
                refine lv_iload_n hx hb dX2_combine_170 rfl (lv_at hl 5 rfl) ?_
                refine lv_lload hx hb dX2_combine_171 (lv_at hl 0 rfl) ?_
                refine va_last hx hb hK hP hD hS 1 1 rfl rfl (i := p_p) (x := 1) (vp_in_iff.mpr ⟨by omega, by omega⟩) dX2_combine_173 ?_
                clear hP hD hS
                intro H locs hP hD hS
                refine g5_rs [(a_j, (oc2 a_as a_sk)), (a_sk, (arJ G 50 (vp_updL f_sk p_p.toNatClampNeg 1)))] hP hD ?_
                clear hP hD
                intro hP hD
                refine lv_lload hx hb dX2_combine_174 (lv_at hl 0 rfl) ?_
                refine W.eq (g2 := F0 m 176 ls [.long 1]) rfl ?_
                refine lv_ldc2 (v := (-1000000000)) hx hb hown (hts _ kl_X2_54) dX2_combine_176 ?_
                refine W.lcmp hx hb dX2_combine_179 ?_
                refine g5_ti (v := 1) (by decide +kernel) ?_
                refine lv_if_lt (tgt := 196) hx hb dX2_combine_180 (by decide +kernel) (fun c_18 => ?_) (fun c_18 => ?_)
                ·
                  exact absurd c_18 (by decide +kernel)
                ·
                  refine lv_lload hx hb dX2_combine_183 (lv_at hl 0 rfl) ?_
                  refine lv_ldc2 (v := 1000000000) hx hb hown (hts _ kl_X2_56) dX2_combine_185 ?_
                  refine W.lcmp hx hb dX2_combine_188 ?_
                  refine g5_ti (v := (-1)) (by decide +kernel) ?_
                  refine lv_if_gt (tgt := 196) hx hb dX2_combine_189 (by decide +kernel) (fun c_19 => ?_) (fun c_19 => ?_)
                  ·
                    exact absurd c_19 (by decide +kernel)
                  ·
                    refine lv_iconst (v := 1) hx hb dX2_combine_192 (by decide +kernel) ?_
                    refine lv_goto (tgt := 197) hx hb dX2_combine_193 (by decide +kernel) ?_
                    exact W.zret (v := 1) hx hb hr rfl (fun t ht hW => ⟨⟨1, [(a_j, (oc2 a_as a_sk)), (a_sk, (arJ G 50 (vp_updL f_sk p_p.toNatClampNeg 1)))], rfl, ⟨1, (vp_updL f_sk p_p.toNatClampNeg 1), ⟨by have zc_o_r : (1 : Int32).toInt = 1 := (by decide +kernel); omega, by have zc_o_r : (1 : Int32).toInt = 1 := (by decide +kernel); omega⟩, Or.inr (by omega), rfl, rfl⟩, by rw [ht]; exact hP.sub [0, 1] rfl, hD.sub [0, 1] (by decide +kernel) rfl⟩, hS.F ht⟩) hS.2.2 dX2_combine_197
            ·
              have i_14 : p_o.toInt = 7 := g5_neN (a := p_o.toInt) (b := 7) rfl (by decide +kernel) c_14
              omega
          ·
            have i_13 : p_o.toInt = 6 := g5_neN (a := p_o.toInt) (b := 6) rfl (by decide +kernel) c_13
            omega
        ·
          have i_6 : p_o.toInt > 5 := by omega
          refine lv_tableOut (tgt := 120) hx hb dX2_combine_53 (by omega) (by decide +kernel) ?_
          refine lv_iload_n hx hb dX2_combine_120 rfl (lv_at hl 3 rfl) ?_
          refine lv_bipush (v := 6) hx hb dX2_combine_121 (by decide +kernel) ?_
          refine lv_icmp_ne (tgt := 136) hx hb dX2_combine_123 (by decide +kernel) (fun c_20 => ?_) (fun c_20 => ?_)
          ·
            have n_20 : gNe (p_o.toInt) (6) := g5_ne (a := p_o.toInt) (b := 6) rfl (by decide +kernel) c_20
            have i_20 : p_o.toInt ≥ 7 := by have z := g5_ne (a := p_o.toInt) (b := 6) (by rfl) (by decide +kernel) c_20; omega
            refine lv_iload_n hx hb dX2_combine_136 rfl (lv_at hl 3 rfl) ?_
            refine lv_bipush (v := 7) hx hb dX2_combine_137 (by decide +kernel) ?_
            refine lv_icmp_ne (tgt := 152) hx hb dX2_combine_139 (by decide +kernel) (fun c_21 => ?_) (fun c_21 => ?_)
            ·
              have n_21 : gNe (p_o.toInt) (7) := g5_ne (a := p_o.toInt) (b := 7) rfl (by decide +kernel) c_21
              have i_21 : p_o.toInt ≥ 8 := by have z := g5_ne (a := p_o.toInt) (b := 7) (by rfl) (by decide +kernel) c_21; omega
              refine lv_lload_n hx hb dX2_combine_152 rfl (lv_at hl 1 rfl) ?_
              refine lv_lload hx hb dX2_combine_153 (lv_at hl 0 rfl) ?_
              refine W.lcmp hx hb dX2_combine_155 ?_
              refine lv_if_ne (tgt := 163) hx hb dX2_combine_156 (by decide +kernel) (fun c_22 => ?_) (fun c_22 => ?_)
              ·
                have n_22 : gNe ((lg_cmp (f_sk p_p.toNatClampNeg) (f_sk (p_p + 1).toNatClampNeg)).toInt) (0) := g5_ne (a := (lg_cmp (f_sk p_p.toNatClampNeg) (f_sk (p_p + 1).toNatClampNeg)).toInt) (b := 0) rfl (by decide +kernel) c_22
                refine lv_lconst (v := 0) hx hb dX2_combine_163 (by decide +kernel) ?_
                refine lv_lstore (lv' := [(7, .long 0), (5, .long (f_sk (p_p + 1).toNatClampNeg)), (3, .long (f_sk p_p.toNatClampNeg)), (0, .ref a_j), (1, .int p_o), (2, .int p_p)]) hx hb dX2_combine_164 hl (by decide +kernel) rfl ?_
                clear hl
                intro ls hl
                refine lv_aload_n hx hb dX2_combine_166 rfl (lv_at hl 3 rfl) ?_
                refine va_get (D := G.1) (ci := 2) (v := .ref a_sk) (C := RX2) (T := TX2) (N := 2) hx hb hts inG_X2 hown hK hP 0 rfl rfl 1 (by decide +kernel) (hts _ fl_X2_15) (fun _ h9 => h9) rfl dX2_combine_167 ?_
                refine W.eq (g2 := F0 m 170 ls [.ref a_sk]) rfl ?_
                refine lv_iload_n hx hb dX2_combine_170 rfl (lv_at hl 5 rfl) ?_
                refine lv_lload hx hb dX2_combine_171 (lv_at hl 0 rfl) ?_
                refine va_last hx hb hK hP hD hS 1 1 rfl rfl (i := p_p) (x := 0) (vp_in_iff.mpr ⟨by omega, by omega⟩) dX2_combine_173 ?_
                clear hP hD hS
                intro H locs hP hD hS
                refine g5_rs [(a_j, (oc2 a_as a_sk)), (a_sk, (arJ G 50 (vp_updL f_sk p_p.toNatClampNeg 0)))] hP hD ?_
                clear hP hD
                intro hP hD
                refine lv_lload hx hb dX2_combine_174 (lv_at hl 0 rfl) ?_
                refine lv_ldc2 (v := (-1000000000)) hx hb hown (hts _ kl_X2_54) dX2_combine_176 ?_
                refine W.eq (g2 := F0 m 179 ls [.long (-1000000000), .long 0]) rfl ?_
                refine W.lcmp hx hb dX2_combine_179 ?_
                refine g5_ti (v := 1) (by decide +kernel) ?_
                refine lv_if_lt (tgt := 196) hx hb dX2_combine_180 (by decide +kernel) (fun c_23 => ?_) (fun c_23 => ?_)
                ·
                  exact absurd c_23 (by decide +kernel)
                ·
                  refine lv_lload hx hb dX2_combine_183 (lv_at hl 0 rfl) ?_
                  refine lv_ldc2 (v := 1000000000) hx hb hown (hts _ kl_X2_56) dX2_combine_185 ?_
                  refine W.lcmp hx hb dX2_combine_188 ?_
                  refine g5_ti (v := (-1)) (by decide +kernel) ?_
                  refine lv_if_gt (tgt := 196) hx hb dX2_combine_189 (by decide +kernel) (fun c_24 => ?_) (fun c_24 => ?_)
                  ·
                    exact absurd c_24 (by decide +kernel)
                  ·
                    refine lv_iconst (v := 1) hx hb dX2_combine_192 (by decide +kernel) ?_
                    refine lv_goto (tgt := 197) hx hb dX2_combine_193 (by decide +kernel) ?_
                    exact W.zret (v := 1) hx hb hr rfl (fun t ht hW => ⟨⟨1, [(a_j, (oc2 a_as a_sk)), (a_sk, (arJ G 50 (vp_updL f_sk p_p.toNatClampNeg 0)))], rfl, ⟨1, (vp_updL f_sk p_p.toNatClampNeg 0), ⟨by have zc_o_r : (1 : Int32).toInt = 1 := (by decide +kernel); omega, by have zc_o_r : (1 : Int32).toInt = 1 := (by decide +kernel); omega⟩, Or.inr (by omega), rfl, rfl⟩, by rw [ht]; exact hP.sub [0, 1] rfl, hD.sub [0, 1] (by decide +kernel) rfl⟩, hS.F ht⟩) hS.2.2 dX2_combine_197
              ·
                have i_22 : (lg_cmp (f_sk p_p.toNatClampNeg) (f_sk (p_p + 1).toNatClampNeg)).toInt = 0 := g5_neN (a := (lg_cmp (f_sk p_p.toNatClampNeg) (f_sk (p_p + 1).toNatClampNeg)).toInt) (b := 0) rfl (by decide +kernel) c_22
                refine lv_lconst (v := 1) hx hb dX2_combine_159 (by decide +kernel) ?_
                refine lv_goto (tgt := 164) hx hb dX2_combine_160 (by decide +kernel) ?_
                refine lv_lstore (lv' := [(7, .long 1), (5, .long (f_sk (p_p + 1).toNatClampNeg)), (3, .long (f_sk p_p.toNatClampNeg)), (0, .ref a_j), (1, .int p_o), (2, .int p_p)]) hx hb dX2_combine_164 hl (by decide +kernel) rfl ?_
                clear hl
                intro ls hl
                refine lv_aload_n hx hb dX2_combine_166 rfl (lv_at hl 3 rfl) ?_
                refine W.eq (g2 := F0 m 167 ls [.ref a_j]) rfl ?_
                refine va_get (D := G.1) (ci := 2) (v := .ref a_sk) (C := RX2) (T := TX2) (N := 2) hx hb hts inG_X2 hown hK hP 0 rfl rfl 1 (by decide +kernel) (hts _ fl_X2_15) (fun _ h9 => h9) rfl dX2_combine_167 ?_
                refine lv_iload_n hx hb dX2_combine_170 rfl (lv_at hl 5 rfl) ?_
                refine lv_lload hx hb dX2_combine_171 (lv_at hl 0 rfl) ?_
                refine va_last hx hb hK hP hD hS 1 1 rfl rfl (i := p_p) (x := 1) (vp_in_iff.mpr ⟨by omega, by omega⟩) dX2_combine_173 ?_
                clear hP hD hS
                intro H locs hP hD hS
                refine g5_rs [(a_j, (oc2 a_as a_sk)), (a_sk, (arJ G 50 (vp_updL f_sk p_p.toNatClampNeg 1)))] hP hD ?_
                clear hP hD
                intro hP hD
                refine lv_lload hx hb dX2_combine_174 (lv_at hl 0 rfl) ?_
                refine W.eq (g2 := F0 m 176 ls [.long 1]) rfl ?_
                refine lv_ldc2 (v := (-1000000000)) hx hb hown (hts _ kl_X2_54) dX2_combine_176 ?_
                refine W.lcmp hx hb dX2_combine_179 ?_
                refine g5_ti (v := 1) (by decide +kernel) ?_
                refine lv_if_lt (tgt := 196) hx hb dX2_combine_180 (by decide +kernel) (fun c_25 => ?_) (fun c_25 => ?_)
                ·
                  exact absurd c_25 (by decide +kernel)
                ·
                  refine lv_lload hx hb dX2_combine_183 (lv_at hl 0 rfl) ?_
                  refine lv_ldc2 (v := 1000000000) hx hb hown (hts _ kl_X2_56) dX2_combine_185 ?_
                  refine W.lcmp hx hb dX2_combine_188 ?_
                  refine g5_ti (v := (-1)) (by decide +kernel) ?_
                  refine lv_if_gt (tgt := 196) hx hb dX2_combine_189 (by decide +kernel) (fun c_26 => ?_) (fun c_26 => ?_)
                  ·
                    exact absurd c_26 (by decide +kernel)
                  ·
                    refine lv_iconst (v := 1) hx hb dX2_combine_192 (by decide +kernel) ?_
                    refine lv_goto (tgt := 197) hx hb dX2_combine_193 (by decide +kernel) ?_
                    exact W.zret (v := 1) hx hb hr rfl (fun t ht hW => ⟨⟨1, [(a_j, (oc2 a_as a_sk)), (a_sk, (arJ G 50 (vp_updL f_sk p_p.toNatClampNeg 1)))], rfl, ⟨1, (vp_updL f_sk p_p.toNatClampNeg 1), ⟨by have zc_o_r : (1 : Int32).toInt = 1 := (by decide +kernel); omega, by have zc_o_r : (1 : Int32).toInt = 1 := (by decide +kernel); omega⟩, Or.inr (by omega), rfl, rfl⟩, by rw [ht]; exact hP.sub [0, 1] rfl, hD.sub [0, 1] (by decide +kernel) rfl⟩, hS.F ht⟩) hS.2.2 dX2_combine_197
            ·
              have i_21 : p_o.toInt = 7 := g5_neN (a := p_o.toInt) (b := 7) rfl (by decide +kernel) c_21
              refine lv_lload_n hx hb dX2_combine_142 rfl (lv_at hl 1 rfl) ?_
              refine lv_lload hx hb dX2_combine_143 (lv_at hl 0 rfl) ?_
              refine W.lcmp hx hb dX2_combine_145 ?_
              refine lv_if_le (tgt := 163) hx hb dX2_combine_146 (by decide +kernel) (fun c_27 => ?_) (fun c_27 => ?_)
              ·
                have i_27 : (lg_cmp (f_sk p_p.toNatClampNeg) (f_sk (p_p + 1).toNatClampNeg)).toInt ≤ 0 := g5_le (a := (lg_cmp (f_sk p_p.toNatClampNeg) (f_sk (p_p + 1).toNatClampNeg)).toInt) (b := 0) rfl (by decide +kernel) c_27
                refine lv_lconst (v := 0) hx hb dX2_combine_163 (by decide +kernel) ?_
                refine lv_lstore (lv' := [(7, .long 0), (5, .long (f_sk (p_p + 1).toNatClampNeg)), (3, .long (f_sk p_p.toNatClampNeg)), (0, .ref a_j), (1, .int p_o), (2, .int p_p)]) hx hb dX2_combine_164 hl (by decide +kernel) rfl ?_
                clear hl
                intro ls hl
                refine lv_aload_n hx hb dX2_combine_166 rfl (lv_at hl 3 rfl) ?_
                refine va_get (D := G.1) (ci := 2) (v := .ref a_sk) (C := RX2) (T := TX2) (N := 2) hx hb hts inG_X2 hown hK hP 0 rfl rfl 1 (by decide +kernel) (hts _ fl_X2_15) (fun _ h9 => h9) rfl dX2_combine_167 ?_
                refine W.eq (g2 := F0 m 170 ls [.ref a_sk]) rfl ?_
                refine lv_iload_n hx hb dX2_combine_170 rfl (lv_at hl 5 rfl) ?_
                refine lv_lload hx hb dX2_combine_171 (lv_at hl 0 rfl) ?_
                refine va_last hx hb hK hP hD hS 1 1 rfl rfl (i := p_p) (x := 0) (vp_in_iff.mpr ⟨by omega, by omega⟩) dX2_combine_173 ?_
                clear hP hD hS
                intro H locs hP hD hS
                refine g5_rs [(a_j, (oc2 a_as a_sk)), (a_sk, (arJ G 50 (vp_updL f_sk p_p.toNatClampNeg 0)))] hP hD ?_
                clear hP hD
                intro hP hD
                refine lv_lload hx hb dX2_combine_174 (lv_at hl 0 rfl) ?_
                refine lv_ldc2 (v := (-1000000000)) hx hb hown (hts _ kl_X2_54) dX2_combine_176 ?_
                refine W.eq (g2 := F0 m 179 ls [.long (-1000000000), .long 0]) rfl ?_
                refine W.lcmp hx hb dX2_combine_179 ?_
                refine g5_ti (v := 1) (by decide +kernel) ?_
                refine lv_if_lt (tgt := 196) hx hb dX2_combine_180 (by decide +kernel) (fun c_28 => ?_) (fun c_28 => ?_)
                ·
                  exact absurd c_28 (by decide +kernel)
                ·
                  refine lv_lload hx hb dX2_combine_183 (lv_at hl 0 rfl) ?_
                  refine lv_ldc2 (v := 1000000000) hx hb hown (hts _ kl_X2_56) dX2_combine_185 ?_
                  refine W.lcmp hx hb dX2_combine_188 ?_
                  refine g5_ti (v := (-1)) (by decide +kernel) ?_
                  refine lv_if_gt (tgt := 196) hx hb dX2_combine_189 (by decide +kernel) (fun c_29 => ?_) (fun c_29 => ?_)
                  ·
                    exact absurd c_29 (by decide +kernel)
                  ·
                    refine lv_iconst (v := 1) hx hb dX2_combine_192 (by decide +kernel) ?_
                    refine lv_goto (tgt := 197) hx hb dX2_combine_193 (by decide +kernel) ?_
                    exact W.zret (v := 1) hx hb hr rfl (fun t ht hW => ⟨⟨1, [(a_j, (oc2 a_as a_sk)), (a_sk, (arJ G 50 (vp_updL f_sk p_p.toNatClampNeg 0)))], rfl, ⟨1, (vp_updL f_sk p_p.toNatClampNeg 0), ⟨by have zc_o_r : (1 : Int32).toInt = 1 := (by decide +kernel); omega, by have zc_o_r : (1 : Int32).toInt = 1 := (by decide +kernel); omega⟩, Or.inr (by omega), rfl, rfl⟩, by rw [ht]; exact hP.sub [0, 1] rfl, hD.sub [0, 1] (by decide +kernel) rfl⟩, hS.F ht⟩) hS.2.2 dX2_combine_197
              ·
                have i_27 : (lg_cmp (f_sk p_p.toNatClampNeg) (f_sk (p_p + 1).toNatClampNeg)).toInt > 0 := g5_leN (a := (lg_cmp (f_sk p_p.toNatClampNeg) (f_sk (p_p + 1).toNatClampNeg)).toInt) (b := 0) rfl (by decide +kernel) c_27
                refine lv_goto (tgt := 159) hx hb dX2_combine_149 (by decide +kernel) ?_
                refine lv_lconst (v := 1) hx hb dX2_combine_159 (by decide +kernel) ?_
                refine lv_goto (tgt := 164) hx hb dX2_combine_160 (by decide +kernel) ?_
                refine lv_lstore (lv' := [(7, .long 1), (5, .long (f_sk (p_p + 1).toNatClampNeg)), (3, .long (f_sk p_p.toNatClampNeg)), (0, .ref a_j), (1, .int p_o), (2, .int p_p)]) hx hb dX2_combine_164 hl (by decide +kernel) rfl ?_
                clear hl
                intro ls hl
                refine W.eq (g2 := F0 m 166 ls []) rfl ?_
                refine lv_aload_n hx hb dX2_combine_166 rfl (lv_at hl 3 rfl) ?_
                refine va_get (D := G.1) (ci := 2) (v := .ref a_sk) (C := RX2) (T := TX2) (N := 2) hx hb hts inG_X2 hown hK hP 0 rfl rfl 1 (by decide +kernel) (hts _ fl_X2_15) (fun _ h9 => h9) rfl dX2_combine_167 ?_
                refine lv_iload_n hx hb dX2_combine_170 rfl (lv_at hl 5 rfl) ?_
                refine lv_lload hx hb dX2_combine_171 (lv_at hl 0 rfl) ?_
                refine va_last hx hb hK hP hD hS 1 1 rfl rfl (i := p_p) (x := 1) (vp_in_iff.mpr ⟨by omega, by omega⟩) dX2_combine_173 ?_
                clear hP hD hS
                intro H locs hP hD hS
                refine g5_rs [(a_j, (oc2 a_as a_sk)), (a_sk, (arJ G 50 (vp_updL f_sk p_p.toNatClampNeg 1)))] hP hD ?_
                clear hP hD
                intro hP hD
                refine W.eq (g2 := F0 m 174 ls []) rfl ?_
                refine lv_lload hx hb dX2_combine_174 (lv_at hl 0 rfl) ?_
                refine lv_ldc2 (v := (-1000000000)) hx hb hown (hts _ kl_X2_54) dX2_combine_176 ?_
                refine W.lcmp hx hb dX2_combine_179 ?_
                refine g5_ti (v := 1) (by decide +kernel) ?_
                refine lv_if_lt (tgt := 196) hx hb dX2_combine_180 (by decide +kernel) (fun c_30 => ?_) (fun c_30 => ?_)
                ·
                  exact absurd c_30 (by decide +kernel)
                ·
                  refine lv_lload hx hb dX2_combine_183 (lv_at hl 0 rfl) ?_
                  refine lv_ldc2 (v := 1000000000) hx hb hown (hts _ kl_X2_56) dX2_combine_185 ?_
                  refine W.lcmp hx hb dX2_combine_188 ?_
                  refine g5_ti (v := (-1)) (by decide +kernel) ?_
                  refine lv_if_gt (tgt := 196) hx hb dX2_combine_189 (by decide +kernel) (fun c_31 => ?_) (fun c_31 => ?_)
                  ·
                    exact absurd c_31 (by decide +kernel)
                  ·
                    refine lv_iconst (v := 1) hx hb dX2_combine_192 (by decide +kernel) ?_
                    refine lv_goto (tgt := 197) hx hb dX2_combine_193 (by decide +kernel) ?_
                    exact W.zret (v := 1) hx hb hr rfl (fun t ht hW => ⟨⟨1, [(a_j, (oc2 a_as a_sk)), (a_sk, (arJ G 50 (vp_updL f_sk p_p.toNatClampNeg 1)))], rfl, ⟨1, (vp_updL f_sk p_p.toNatClampNeg 1), ⟨by have zc_o_r : (1 : Int32).toInt = 1 := (by decide +kernel); omega, by have zc_o_r : (1 : Int32).toInt = 1 := (by decide +kernel); omega⟩, Or.inr (by omega), rfl, rfl⟩, by rw [ht]; exact hP.sub [0, 1] rfl, hD.sub [0, 1] (by decide +kernel) rfl⟩, hS.F ht⟩) hS.2.2 dX2_combine_197
          ·
            have i_20 : p_o.toInt = 6 := g5_neN (a := p_o.toInt) (b := 6) rfl (by decide +kernel) c_20
            refine lv_lload_n hx hb dX2_combine_126 rfl (lv_at hl 1 rfl) ?_
            refine lv_lload hx hb dX2_combine_127 (lv_at hl 0 rfl) ?_
            refine W.lcmp hx hb dX2_combine_129 ?_
            refine lv_if_ge (tgt := 163) hx hb dX2_combine_130 (by decide +kernel) (fun c_32 => ?_) (fun c_32 => ?_)
            ·
              have i_32 : (lg_cmp (f_sk p_p.toNatClampNeg) (f_sk (p_p + 1).toNatClampNeg)).toInt ≥ 0 := g5_ge (a := (lg_cmp (f_sk p_p.toNatClampNeg) (f_sk (p_p + 1).toNatClampNeg)).toInt) (b := 0) rfl (by decide +kernel) c_32
              refine lv_lconst (v := 0) hx hb dX2_combine_163 (by decide +kernel) ?_
              refine lv_lstore (lv' := [(7, .long 0), (5, .long (f_sk (p_p + 1).toNatClampNeg)), (3, .long (f_sk p_p.toNatClampNeg)), (0, .ref a_j), (1, .int p_o), (2, .int p_p)]) hx hb dX2_combine_164 hl (by decide +kernel) rfl ?_
              clear hl
              intro ls hl
              refine lv_aload_n hx hb dX2_combine_166 rfl (lv_at hl 3 rfl) ?_
              refine va_get (D := G.1) (ci := 2) (v := .ref a_sk) (C := RX2) (T := TX2) (N := 2) hx hb hts inG_X2 hown hK hP 0 rfl rfl 1 (by decide +kernel) (hts _ fl_X2_15) (fun _ h9 => h9) rfl dX2_combine_167 ?_
              refine W.eq (g2 := F0 m 170 ls [.ref a_sk]) rfl ?_
              refine lv_iload_n hx hb dX2_combine_170 rfl (lv_at hl 5 rfl) ?_
              refine lv_lload hx hb dX2_combine_171 (lv_at hl 0 rfl) ?_
              refine va_last hx hb hK hP hD hS 1 1 rfl rfl (i := p_p) (x := 0) (vp_in_iff.mpr ⟨by omega, by omega⟩) dX2_combine_173 ?_
              clear hP hD hS
              intro H locs hP hD hS
              refine g5_rs [(a_j, (oc2 a_as a_sk)), (a_sk, (arJ G 50 (vp_updL f_sk p_p.toNatClampNeg 0)))] hP hD ?_
              clear hP hD
              intro hP hD
              refine lv_lload hx hb dX2_combine_174 (lv_at hl 0 rfl) ?_
              refine lv_ldc2 (v := (-1000000000)) hx hb hown (hts _ kl_X2_54) dX2_combine_176 ?_
              refine W.eq (g2 := F0 m 179 ls [.long (-1000000000), .long 0]) rfl ?_
              refine W.lcmp hx hb dX2_combine_179 ?_
              refine g5_ti (v := 1) (by decide +kernel) ?_
              refine lv_if_lt (tgt := 196) hx hb dX2_combine_180 (by decide +kernel) (fun c_33 => ?_) (fun c_33 => ?_)
              ·
                exact absurd c_33 (by decide +kernel)
              ·
                refine lv_lload hx hb dX2_combine_183 (lv_at hl 0 rfl) ?_
                refine lv_ldc2 (v := 1000000000) hx hb hown (hts _ kl_X2_56) dX2_combine_185 ?_
                refine W.lcmp hx hb dX2_combine_188 ?_
                refine g5_ti (v := (-1)) (by decide +kernel) ?_
                refine lv_if_gt (tgt := 196) hx hb dX2_combine_189 (by decide +kernel) (fun c_34 => ?_) (fun c_34 => ?_)
                ·
                  exact absurd c_34 (by decide +kernel)
                ·
                  refine lv_iconst (v := 1) hx hb dX2_combine_192 (by decide +kernel) ?_
                  refine lv_goto (tgt := 197) hx hb dX2_combine_193 (by decide +kernel) ?_
                  exact W.zret (v := 1) hx hb hr rfl (fun t ht hW => ⟨⟨1, [(a_j, (oc2 a_as a_sk)), (a_sk, (arJ G 50 (vp_updL f_sk p_p.toNatClampNeg 0)))], rfl, ⟨1, (vp_updL f_sk p_p.toNatClampNeg 0), ⟨by have zc_o_r : (1 : Int32).toInt = 1 := (by decide +kernel); omega, by have zc_o_r : (1 : Int32).toInt = 1 := (by decide +kernel); omega⟩, Or.inr (by omega), rfl, rfl⟩, by rw [ht]; exact hP.sub [0, 1] rfl, hD.sub [0, 1] (by decide +kernel) rfl⟩, hS.F ht⟩) hS.2.2 dX2_combine_197
            ·
              have i_32 : (lg_cmp (f_sk p_p.toNatClampNeg) (f_sk (p_p + 1).toNatClampNeg)).toInt < 0 := g5_geN (a := (lg_cmp (f_sk p_p.toNatClampNeg) (f_sk (p_p + 1).toNatClampNeg)).toInt) (b := 0) rfl (by decide +kernel) c_32
              refine lv_goto (tgt := 159) hx hb dX2_combine_133 (by decide +kernel) ?_
              refine lv_lconst (v := 1) hx hb dX2_combine_159 (by decide +kernel) ?_
              refine lv_goto (tgt := 164) hx hb dX2_combine_160 (by decide +kernel) ?_
              refine lv_lstore (lv' := [(7, .long 1), (5, .long (f_sk (p_p + 1).toNatClampNeg)), (3, .long (f_sk p_p.toNatClampNeg)), (0, .ref a_j), (1, .int p_o), (2, .int p_p)]) hx hb dX2_combine_164 hl (by decide +kernel) rfl ?_
              clear hl
              intro ls hl
              refine W.eq (g2 := F0 m 166 ls []) rfl ?_
              refine lv_aload_n hx hb dX2_combine_166 rfl (lv_at hl 3 rfl) ?_
              refine va_get (D := G.1) (ci := 2) (v := .ref a_sk) (C := RX2) (T := TX2) (N := 2) hx hb hts inG_X2 hown hK hP 0 rfl rfl 1 (by decide +kernel) (hts _ fl_X2_15) (fun _ h9 => h9) rfl dX2_combine_167 ?_
              refine lv_iload_n hx hb dX2_combine_170 rfl (lv_at hl 5 rfl) ?_
              refine lv_lload hx hb dX2_combine_171 (lv_at hl 0 rfl) ?_
              refine va_last hx hb hK hP hD hS 1 1 rfl rfl (i := p_p) (x := 1) (vp_in_iff.mpr ⟨by omega, by omega⟩) dX2_combine_173 ?_
              clear hP hD hS
              intro H locs hP hD hS
              refine g5_rs [(a_j, (oc2 a_as a_sk)), (a_sk, (arJ G 50 (vp_updL f_sk p_p.toNatClampNeg 1)))] hP hD ?_
              clear hP hD
              intro hP hD
              refine W.eq (g2 := F0 m 174 ls []) rfl ?_
              refine lv_lload hx hb dX2_combine_174 (lv_at hl 0 rfl) ?_
              refine lv_ldc2 (v := (-1000000000)) hx hb hown (hts _ kl_X2_54) dX2_combine_176 ?_
              refine W.lcmp hx hb dX2_combine_179 ?_
              refine g5_ti (v := 1) (by decide +kernel) ?_
              refine lv_if_lt (tgt := 196) hx hb dX2_combine_180 (by decide +kernel) (fun c_35 => ?_) (fun c_35 => ?_)
              ·
                exact absurd c_35 (by decide +kernel)
              ·
                refine lv_lload hx hb dX2_combine_183 (lv_at hl 0 rfl) ?_
                refine lv_ldc2 (v := 1000000000) hx hb hown (hts _ kl_X2_56) dX2_combine_185 ?_
                refine W.lcmp hx hb dX2_combine_188 ?_
                refine g5_ti (v := (-1)) (by decide +kernel) ?_
                refine lv_if_gt (tgt := 196) hx hb dX2_combine_189 (by decide +kernel) (fun c_36 => ?_) (fun c_36 => ?_)
                ·
                  exact absurd c_36 (by decide +kernel)
                ·
                  refine lv_iconst (v := 1) hx hb dX2_combine_192 (by decide +kernel) ?_
                  refine lv_goto (tgt := 197) hx hb dX2_combine_193 (by decide +kernel) ?_
                  exact W.zret (v := 1) hx hb hr rfl (fun t ht hW => ⟨⟨1, [(a_j, (oc2 a_as a_sk)), (a_sk, (arJ G 50 (vp_updL f_sk p_p.toNatClampNeg 1)))], rfl, ⟨1, (vp_updL f_sk p_p.toNatClampNeg 1), ⟨by have zc_o_r : (1 : Int32).toInt = 1 := (by decide +kernel); omega, by have zc_o_r : (1 : Int32).toInt = 1 := (by decide +kernel); omega⟩, Or.inr (by omega), rfl, rfl⟩, by rw [ht]; exact hP.sub [0, 1] rfl, hD.sub [0, 1] (by decide +kernel) rfl⟩, hS.F ht⟩) hS.2.2 dX2_combine_197
      ·
        have i_4 : p_o.toInt = 5 := g5_neN (a := p_o.toInt) (b := 5) rfl (by decide +kernel) c_4
        refine lv_aload_n hx hb dX2_combine_20 rfl (lv_at hl 0 rfl) ?_
        refine va_get (D := G.1) (ci := 2) (v := .ref a_sk) (C := RX2) (T := TX2) (N := 2) hx hb hts inG_X2 hown hK hP 0 rfl rfl 1 (by decide +kernel) (hts _ fl_X2_15) (fun _ h9 => h9) rfl dX2_combine_21 ?_
        refine lv_iload_n hx hb dX2_combine_24 rfl (lv_at hl 2 rfl) ?_
        refine lv_iconst (v := 1) hx hb dX2_combine_25 (by decide +kernel) ?_
        refine W.eq (g2 := F0 m 26 ls [.int 1, .int p_p, .ref a_sk]) rfl ?_
        refine lv_iadd hx hb dX2_combine_26 ?_
        have t_37 : (p_p + 1).toInt = p_p.toInt + 1 := g5_iadd (a := p_p.toInt) (b := 1) (by rfl) (by decide +kernel) (by omega) (by omega)
        refine va_lald hx hb hK hP 1 1 rfl rfl (i := (p_p + 1)) (vp_in_iff.mpr ⟨by omega, by omega⟩) dX2_combine_27 ?_
        refine lv_lconst (v := 0) hx hb dX2_combine_28 (by decide +kernel) ?_
        refine W.lcmp hx hb dX2_combine_29 ?_
        refine lv_if_ne (tgt := 35) hx hb dX2_combine_30 (by decide +kernel) (fun c_38 => ?_) (fun c_38 => ?_)
        ·
          have n_38 : gNe ((lg_cmp (f_sk (p_p + 1).toNatClampNeg) 0).toInt) (0) := g5_ne (a := (lg_cmp (f_sk (p_p + 1).toNatClampNeg) 0).toInt) (b := 0) rfl (by decide +kernel) c_38
          refine lv_aload_n hx hb dX2_combine_35 rfl (lv_at hl 0 rfl) ?_
          refine va_get (D := G.1) (ci := 2) (v := .ref a_sk) (C := RX2) (T := TX2) (N := 2) hx hb hts inG_X2 hown hK hP 0 rfl rfl 1 (by decide +kernel) (hts _ fl_X2_15) (fun _ h9 => h9) rfl dX2_combine_36 ?_
          refine lv_iload_n hx hb dX2_combine_39 rfl (lv_at hl 2 rfl) ?_
          refine va_lald hx hb hK hP 1 1 rfl rfl (i := p_p) (vp_in_iff.mpr ⟨by omega, by omega⟩) dX2_combine_40 ?_
          refine W.eq (g2 := F0 m 41 ls [.long (f_sk p_p.toNatClampNeg)]) rfl ?_
          refine lv_lstore_n (lv' := [(3, .long (f_sk p_p.toNatClampNeg)), (0, .ref a_j), (1, .int p_o), (2, .int p_p)]) hx hb dX2_combine_41 rfl hl (by decide +kernel) rfl ?_
          clear hl
          intro ls hl
          refine lv_aload_n hx hb dX2_combine_42 rfl (lv_at hl 1 rfl) ?_
          refine va_get (D := G.1) (ci := 2) (v := .ref a_sk) (C := RX2) (T := TX2) (N := 2) hx hb hts inG_X2 hown hK hP 0 rfl rfl 1 (by decide +kernel) (hts _ fl_X2_15) (fun _ h9 => h9) rfl dX2_combine_43 ?_
          refine lv_iload_n hx hb dX2_combine_46 rfl (lv_at hl 3 rfl) ?_
          refine lv_iconst (v := 1) hx hb dX2_combine_47 (by decide +kernel) ?_
          refine W.eq (g2 := F0 m 48 ls [.int 1, .int p_p, .ref a_sk]) rfl ?_
          refine lv_iadd hx hb dX2_combine_48 ?_
          have t_39 : (p_p + 1).toInt = p_p.toInt + 1 := g5_iadd (a := p_p.toInt) (b := 1) (by rfl) (by decide +kernel) (by omega) (by omega)
          refine va_lald hx hb hK hP 1 1 rfl rfl (i := (p_p + 1)) (vp_in_iff.mpr ⟨by omega, by omega⟩) dX2_combine_49 ?_
          refine lv_lstore (lv' := [(5, .long (f_sk (p_p + 1).toNatClampNeg)), (3, .long (f_sk p_p.toNatClampNeg)), (0, .ref a_j), (1, .int p_o), (2, .int p_p)]) hx hb dX2_combine_50 hl (by decide +kernel) rfl ?_
          clear hl
          intro ls hl
          refine lv_iload_n hx hb dX2_combine_52 rfl (lv_at hl 3 rfl) ?_
          have s_40 : p_o.toInt = 5 := by omega
          have i_40 : p_o.toInt = 5 := by omega
          refine lv_tableIn (tgt := 111) hx hb dX2_combine_53 (by omega) (by omega) (by rw [s_40]; rfl) (by decide +kernel) ?_
          refine lv_lload_n hx hb dX2_combine_111 rfl (lv_at hl 1 rfl) ?_
          refine lv_lload hx hb dX2_combine_112 (lv_at hl 0 rfl) ?_
          refine lv_ldiv hx hb dX2_combine_114 (g5_cmp1 n_38) ?_
          refine lv_lstore (lv' := [(7, .long ((f_sk p_p.toNatClampNeg) / (f_sk (p_p + 1).toNatClampNeg))), (5, .long (f_sk (p_p + 1).toNatClampNeg)), (3, .long (f_sk p_p.toNatClampNeg)), (0, .ref a_j), (1, .int p_o), (2, .int p_p)]) hx hb dX2_combine_115 hl (by decide +kernel) rfl ?_
          clear hl
          intro ls hl
          refine W.eq (g2 := F0 m 117 ls []) rfl ?_
          refine lv_goto (tgt := 166) hx hb dX2_combine_117 (by decide +kernel) ?_
          refine lv_aload_n hx hb dX2_combine_166 rfl (lv_at hl 3 rfl) ?_
          refine va_get (D := G.1) (ci := 2) (v := .ref a_sk) (C := RX2) (T := TX2) (N := 2) hx hb hts inG_X2 hown hK hP 0 rfl rfl 1 (by decide +kernel) (hts _ fl_X2_15) (fun _ h9 => h9) rfl dX2_combine_167 ?_
          refine lv_iload_n hx hb dX2_combine_170 rfl (lv_at hl 5 rfl) ?_
          refine lv_lload hx hb dX2_combine_171 (lv_at hl 0 rfl) ?_
          refine W.eq (g2 := F0 m 173 ls [.long ((f_sk p_p.toNatClampNeg) / (f_sk (p_p + 1).toNatClampNeg)), .int p_p, .ref a_sk]) rfl ?_
          refine va_last hx hb hK hP hD hS 1 1 rfl rfl (i := p_p) (x := ((f_sk p_p.toNatClampNeg) / (f_sk (p_p + 1).toNatClampNeg))) (vp_in_iff.mpr ⟨by omega, by omega⟩) dX2_combine_173 ?_
          clear hP hD hS
          intro H locs hP hD hS
          refine g5_rs [(a_j, (oc2 a_as a_sk)), (a_sk, (arJ G 50 (vp_updL f_sk p_p.toNatClampNeg ((f_sk p_p.toNatClampNeg) / (f_sk (p_p + 1).toNatClampNeg)))))] hP hD ?_
          clear hP hD
          intro hP hD
          refine lv_lload hx hb dX2_combine_174 (lv_at hl 0 rfl) ?_
          refine lv_ldc2 (v := (-1000000000)) hx hb hown (hts _ kl_X2_54) dX2_combine_176 ?_
          refine W.lcmp hx hb dX2_combine_179 ?_
          refine lv_if_lt (tgt := 196) hx hb dX2_combine_180 (by decide +kernel) (fun c_41 => ?_) (fun c_41 => ?_)
          ·
            have i_41 : (lg_cmp ((f_sk p_p.toNatClampNeg) / (f_sk (p_p + 1).toNatClampNeg)) (-1000000000)).toInt < 0 := g5_lt (a := (lg_cmp ((f_sk p_p.toNatClampNeg) / (f_sk (p_p + 1).toNatClampNeg)) (-1000000000)).toInt) (b := 0) rfl (by decide +kernel) c_41
            refine lv_iconst (v := 0) hx hb dX2_combine_196 (by decide +kernel) ?_
            exact W.zret (v := 0) hx hb hr rfl (fun t ht hW => ⟨⟨0, [(a_j, (oc2 a_as a_sk)), (a_sk, (arJ G 50 (vp_updL f_sk p_p.toNatClampNeg ((f_sk p_p.toNatClampNeg) / (f_sk (p_p + 1).toNatClampNeg)))))], rfl, ⟨0, (vp_updL f_sk p_p.toNatClampNeg ((f_sk p_p.toNatClampNeg) / (f_sk (p_p + 1).toNatClampNeg))), ⟨by have zc_o_r : (0 : Int32).toInt = 0 := (by decide +kernel); omega, by have zc_o_r : (0 : Int32).toInt = 0 := (by decide +kernel); omega⟩, Or.inl (by decide +kernel), rfl, rfl⟩, by rw [ht]; exact hP.sub [0, 1] rfl, hD.sub [0, 1] (by decide +kernel) rfl⟩, hS.F ht⟩) hS.2.2 dX2_combine_197
          ·
            have i_41 : (lg_cmp ((f_sk p_p.toNatClampNeg) / (f_sk (p_p + 1).toNatClampNeg)) (-1000000000)).toInt ≥ 0 := g5_ltN (a := (lg_cmp ((f_sk p_p.toNatClampNeg) / (f_sk (p_p + 1).toNatClampNeg)) (-1000000000)).toInt) (b := 0) rfl (by decide +kernel) c_41
            refine lv_lload hx hb dX2_combine_183 (lv_at hl 0 rfl) ?_
            refine lv_ldc2 (v := 1000000000) hx hb hown (hts _ kl_X2_56) dX2_combine_185 ?_
            refine W.lcmp hx hb dX2_combine_188 ?_
            refine lv_if_gt (tgt := 196) hx hb dX2_combine_189 (by decide +kernel) (fun c_42 => ?_) (fun c_42 => ?_)
            ·
              have i_42 : (lg_cmp ((f_sk p_p.toNatClampNeg) / (f_sk (p_p + 1).toNatClampNeg)) 1000000000).toInt > 0 := g5_gt (a := (lg_cmp ((f_sk p_p.toNatClampNeg) / (f_sk (p_p + 1).toNatClampNeg)) 1000000000).toInt) (b := 0) rfl (by decide +kernel) c_42
              refine lv_iconst (v := 0) hx hb dX2_combine_196 (by decide +kernel) ?_
              exact W.zret (v := 0) hx hb hr rfl (fun t ht hW => ⟨⟨0, [(a_j, (oc2 a_as a_sk)), (a_sk, (arJ G 50 (vp_updL f_sk p_p.toNatClampNeg ((f_sk p_p.toNatClampNeg) / (f_sk (p_p + 1).toNatClampNeg)))))], rfl, ⟨0, (vp_updL f_sk p_p.toNatClampNeg ((f_sk p_p.toNatClampNeg) / (f_sk (p_p + 1).toNatClampNeg))), ⟨by have zc_o_r : (0 : Int32).toInt = 0 := (by decide +kernel); omega, by have zc_o_r : (0 : Int32).toInt = 0 := (by decide +kernel); omega⟩, Or.inl (by decide +kernel), rfl, rfl⟩, by rw [ht]; exact hP.sub [0, 1] rfl, hD.sub [0, 1] (by decide +kernel) rfl⟩, hS.F ht⟩) hS.2.2 dX2_combine_197
            ·
              have i_42 : (lg_cmp ((f_sk p_p.toNatClampNeg) / (f_sk (p_p + 1).toNatClampNeg)) 1000000000).toInt ≤ 0 := g5_gtN (a := (lg_cmp ((f_sk p_p.toNatClampNeg) / (f_sk (p_p + 1).toNatClampNeg)) 1000000000).toInt) (b := 0) rfl (by decide +kernel) c_42
              refine lv_iconst (v := 1) hx hb dX2_combine_192 (by decide +kernel) ?_
              refine lv_goto (tgt := 197) hx hb dX2_combine_193 (by decide +kernel) ?_
              exact W.zret (v := 1) hx hb hr rfl (fun t ht hW => ⟨⟨1, [(a_j, (oc2 a_as a_sk)), (a_sk, (arJ G 50 (vp_updL f_sk p_p.toNatClampNeg ((f_sk p_p.toNatClampNeg) / (f_sk (p_p + 1).toNatClampNeg)))))], rfl, ⟨1, (vp_updL f_sk p_p.toNatClampNeg ((f_sk p_p.toNatClampNeg) / (f_sk (p_p + 1).toNatClampNeg))), ⟨by have zc_o_r : (1 : Int32).toInt = 1 := (by decide +kernel); omega, by have zc_o_r : (1 : Int32).toInt = 1 := (by decide +kernel); omega⟩, Or.inr (by omega), rfl, rfl⟩, by rw [ht]; exact hP.sub [0, 1] rfl, hD.sub [0, 1] (by decide +kernel) rfl⟩, hS.F ht⟩) hS.2.2 dX2_combine_197
        ·
          have i_38 : (lg_cmp (f_sk (p_p + 1).toNatClampNeg) 0).toInt = 0 := g5_neN (a := (lg_cmp (f_sk (p_p + 1).toNatClampNeg) 0).toInt) (b := 0) rfl (by decide +kernel) c_38
          refine lv_iconst (v := 0) hx hb dX2_combine_33 (by decide +kernel) ?_
          exact W.zret (v := 0) hx hb hr rfl (fun t ht hW => ⟨⟨0, [(a_j, (oc2 a_as a_sk)), (a_sk, (arJ G 50 f_sk))], rfl, ⟨0, f_sk, ⟨by have zc_o_r : (0 : Int32).toInt = 0 := (by decide +kernel); omega, by have zc_o_r : (0 : Int32).toInt = 0 := (by decide +kernel); omega⟩, Or.inl (by decide +kernel), rfl, rfl⟩, by rw [ht]; exact hP.sub [0, 1] rfl, hD.sub [0, 1] (by decide +kernel) rfl⟩, hS.F ht⟩) hS.2.2 dX2_combine_34
theorem dgX2_holds_0 : ∀ r ∈ ([(0, (.iconst 0, 1)), (1, (.istore_n 3, 1)), (2, (.aload_n 1, 1)), (3, (.getfield 41, 3)), (6, (.iload_n 2, 1)), (7, (.iconst 1, 1)), (8, (.iadd, 1)), (9, (.iaload, 1)), (10, (.istore 4, 2)), (12, (.aload_n 1, 1)), (13, (.getfield 41, 3)), (16, (.iload_n 2, 1)), (17, (.iaload, 1)), (18, (.istore 5, 2)), (20, (.iload 5, 2)), (22, (.iload 4, 2)), (24, (.if_icmp .ge 219, 3)), (27, (.aload_n 1, 1)), (28, (.getfield 44, 3)), (31, (.iload 5, 2)), (33, (.iaload, 1)), (34, (.bipush 12, 2)), (36, (.ishr, 1)), (37, (.istore 6, 2)), (39, (.aload_n 1, 1)), (40, (.getfield 44, 3)), (43, (.iload 5, 2)), (45, (.iaload, 1)), (46, (.sipush 4095, 3)), (49, (.iand, 1)), (50, (.istore 7, 2)), (52, (.iload 6, 2)), (54, (.ifCond .eq 9, 3)), (57, (.iload 6, 2)), (59, (.iconst 1, 1)), (60, (.if_icmp .ne 45, 3)), (63, (.iload_n 3, 1)), (64, (.aload_n 0, 1)), (65, (.getfield 15, 3)), (68, (.arraylength, 1))] : List (Nat × (Instr × Nat))), decode cX2_holds r.1 = .ok r.2 := by decide +kernel
theorem dX2_holds_0 : decode cX2_holds 0 = .ok (.iconst 0, 1) := dgX2_holds_0 (0, (.iconst 0, 1)) (List.mem_of_getElem? (i := 0) rfl)
theorem dX2_holds_1 : decode cX2_holds 1 = .ok (.istore_n 3, 1) := dgX2_holds_0 (1, (.istore_n 3, 1)) (List.mem_of_getElem? (i := 1) rfl)
theorem dX2_holds_2 : decode cX2_holds 2 = .ok (.aload_n 1, 1) := dgX2_holds_0 (2, (.aload_n 1, 1)) (List.mem_of_getElem? (i := 2) rfl)
theorem dX2_holds_3 : decode cX2_holds 3 = .ok (.getfield 41, 3) := dgX2_holds_0 (3, (.getfield 41, 3)) (List.mem_of_getElem? (i := 3) rfl)
theorem dX2_holds_6 : decode cX2_holds 6 = .ok (.iload_n 2, 1) := dgX2_holds_0 (6, (.iload_n 2, 1)) (List.mem_of_getElem? (i := 4) rfl)
theorem dX2_holds_7 : decode cX2_holds 7 = .ok (.iconst 1, 1) := dgX2_holds_0 (7, (.iconst 1, 1)) (List.mem_of_getElem? (i := 5) rfl)
theorem dX2_holds_8 : decode cX2_holds 8 = .ok (.iadd, 1) := dgX2_holds_0 (8, (.iadd, 1)) (List.mem_of_getElem? (i := 6) rfl)
theorem dX2_holds_9 : decode cX2_holds 9 = .ok (.iaload, 1) := dgX2_holds_0 (9, (.iaload, 1)) (List.mem_of_getElem? (i := 7) rfl)
theorem dX2_holds_10 : decode cX2_holds 10 = .ok (.istore 4, 2) := dgX2_holds_0 (10, (.istore 4, 2)) (List.mem_of_getElem? (i := 8) rfl)
theorem dX2_holds_12 : decode cX2_holds 12 = .ok (.aload_n 1, 1) := dgX2_holds_0 (12, (.aload_n 1, 1)) (List.mem_of_getElem? (i := 9) rfl)
theorem dX2_holds_13 : decode cX2_holds 13 = .ok (.getfield 41, 3) := dgX2_holds_0 (13, (.getfield 41, 3)) (List.mem_of_getElem? (i := 10) rfl)
theorem dX2_holds_16 : decode cX2_holds 16 = .ok (.iload_n 2, 1) := dgX2_holds_0 (16, (.iload_n 2, 1)) (List.mem_of_getElem? (i := 11) rfl)
theorem dX2_holds_17 : decode cX2_holds 17 = .ok (.iaload, 1) := dgX2_holds_0 (17, (.iaload, 1)) (List.mem_of_getElem? (i := 12) rfl)
theorem dX2_holds_18 : decode cX2_holds 18 = .ok (.istore 5, 2) := dgX2_holds_0 (18, (.istore 5, 2)) (List.mem_of_getElem? (i := 13) rfl)
theorem dX2_holds_20 : decode cX2_holds 20 = .ok (.iload 5, 2) := dgX2_holds_0 (20, (.iload 5, 2)) (List.mem_of_getElem? (i := 14) rfl)
theorem dX2_holds_22 : decode cX2_holds 22 = .ok (.iload 4, 2) := dgX2_holds_0 (22, (.iload 4, 2)) (List.mem_of_getElem? (i := 15) rfl)
theorem dX2_holds_24 : decode cX2_holds 24 = .ok (.if_icmp .ge 219, 3) := dgX2_holds_0 (24, (.if_icmp .ge 219, 3)) (List.mem_of_getElem? (i := 16) rfl)
theorem dX2_holds_27 : decode cX2_holds 27 = .ok (.aload_n 1, 1) := dgX2_holds_0 (27, (.aload_n 1, 1)) (List.mem_of_getElem? (i := 17) rfl)
theorem dX2_holds_28 : decode cX2_holds 28 = .ok (.getfield 44, 3) := dgX2_holds_0 (28, (.getfield 44, 3)) (List.mem_of_getElem? (i := 18) rfl)
theorem dX2_holds_31 : decode cX2_holds 31 = .ok (.iload 5, 2) := dgX2_holds_0 (31, (.iload 5, 2)) (List.mem_of_getElem? (i := 19) rfl)
theorem dX2_holds_33 : decode cX2_holds 33 = .ok (.iaload, 1) := dgX2_holds_0 (33, (.iaload, 1)) (List.mem_of_getElem? (i := 20) rfl)
theorem dX2_holds_34 : decode cX2_holds 34 = .ok (.bipush 12, 2) := dgX2_holds_0 (34, (.bipush 12, 2)) (List.mem_of_getElem? (i := 21) rfl)
theorem dX2_holds_36 : decode cX2_holds 36 = .ok (.ishr, 1) := dgX2_holds_0 (36, (.ishr, 1)) (List.mem_of_getElem? (i := 22) rfl)
theorem dX2_holds_37 : decode cX2_holds 37 = .ok (.istore 6, 2) := dgX2_holds_0 (37, (.istore 6, 2)) (List.mem_of_getElem? (i := 23) rfl)
theorem dX2_holds_39 : decode cX2_holds 39 = .ok (.aload_n 1, 1) := dgX2_holds_0 (39, (.aload_n 1, 1)) (List.mem_of_getElem? (i := 24) rfl)
theorem dX2_holds_40 : decode cX2_holds 40 = .ok (.getfield 44, 3) := dgX2_holds_0 (40, (.getfield 44, 3)) (List.mem_of_getElem? (i := 25) rfl)
theorem dX2_holds_43 : decode cX2_holds 43 = .ok (.iload 5, 2) := dgX2_holds_0 (43, (.iload 5, 2)) (List.mem_of_getElem? (i := 26) rfl)
theorem dX2_holds_45 : decode cX2_holds 45 = .ok (.iaload, 1) := dgX2_holds_0 (45, (.iaload, 1)) (List.mem_of_getElem? (i := 27) rfl)
theorem dX2_holds_46 : decode cX2_holds 46 = .ok (.sipush 4095, 3) := dgX2_holds_0 (46, (.sipush 4095, 3)) (List.mem_of_getElem? (i := 28) rfl)
theorem dX2_holds_49 : decode cX2_holds 49 = .ok (.iand, 1) := dgX2_holds_0 (49, (.iand, 1)) (List.mem_of_getElem? (i := 29) rfl)
theorem dX2_holds_50 : decode cX2_holds 50 = .ok (.istore 7, 2) := dgX2_holds_0 (50, (.istore 7, 2)) (List.mem_of_getElem? (i := 30) rfl)
theorem dX2_holds_52 : decode cX2_holds 52 = .ok (.iload 6, 2) := dgX2_holds_0 (52, (.iload 6, 2)) (List.mem_of_getElem? (i := 31) rfl)
theorem dX2_holds_54 : decode cX2_holds 54 = .ok (.ifCond .eq 9, 3) := dgX2_holds_0 (54, (.ifCond .eq 9, 3)) (List.mem_of_getElem? (i := 32) rfl)
theorem dX2_holds_57 : decode cX2_holds 57 = .ok (.iload 6, 2) := dgX2_holds_0 (57, (.iload 6, 2)) (List.mem_of_getElem? (i := 33) rfl)
theorem dX2_holds_59 : decode cX2_holds 59 = .ok (.iconst 1, 1) := dgX2_holds_0 (59, (.iconst 1, 1)) (List.mem_of_getElem? (i := 34) rfl)
theorem dX2_holds_60 : decode cX2_holds 60 = .ok (.if_icmp .ne 45, 3) := dgX2_holds_0 (60, (.if_icmp .ne 45, 3)) (List.mem_of_getElem? (i := 35) rfl)
theorem dX2_holds_63 : decode cX2_holds 63 = .ok (.iload_n 3, 1) := dgX2_holds_0 (63, (.iload_n 3, 1)) (List.mem_of_getElem? (i := 36) rfl)
theorem dX2_holds_64 : decode cX2_holds 64 = .ok (.aload_n 0, 1) := dgX2_holds_0 (64, (.aload_n 0, 1)) (List.mem_of_getElem? (i := 37) rfl)
theorem dX2_holds_65 : decode cX2_holds 65 = .ok (.getfield 15, 3) := dgX2_holds_0 (65, (.getfield 15, 3)) (List.mem_of_getElem? (i := 38) rfl)
theorem dX2_holds_68 : decode cX2_holds 68 = .ok (.arraylength, 1) := dgX2_holds_0 (68, (.arraylength, 1)) (List.mem_of_getElem? (i := 39) rfl)
theorem dgX2_holds_1 : ∀ r ∈ ([(69, (.if_icmp .lt 5, 3)), (72, (.iconst 0, 1)), (73, (.ireturn, 1)), (74, (.aload_n 0, 1)), (75, (.getfield 15, 3)), (78, (.iload_n 3, 1)), (79, (.iload 6, 2)), (81, (.ifCond .ne 9, 3)), (84, (.iload 7, 2)), (86, (.i2l, 1)), (87, (.goto 11, 3)), (90, (.aload_n 0, 1)), (91, (.getfield 9, 3)), (94, (.iload 7, 2)), (96, (.iaload, 1)), (97, (.i2l, 1)), (98, (.lastore, 1)), (99, (.iinc 3 1, 3)), (102, (.goto 135, 3)), (105, (.iload 6, 2)), (107, (.bipush 8, 2)), (109, (.if_icmp .gt 20, 3)), (112, (.iinc 3 (-1), 3)), (115, (.aload_n 0, 1)), (116, (.iload 6, 2)), (118, (.iload_n 3, 1)), (119, (.iconst 1, 1)), (120, (.isub, 1)), (121, (.invokevirtual 47, 3)), (124, (.ifCond .ne 113, 3)), (127, (.iconst 0, 1)), (128, (.ireturn, 1)), (129, (.iload_n 3, 1)), (130, (.iconst 1, 1)), (131, (.if_icmp .ge 5, 3)), (134, (.iconst 0, 1)), (135, (.ireturn, 1)), (136, (.iload 6, 2)), (138, (.bipush 9, 2)), (140, (.if_icmp .ne 24, 3))] : List (Nat × (Instr × Nat))), decode cX2_holds r.1 = .ok r.2 := by decide +kernel
theorem dX2_holds_69 : decode cX2_holds 69 = .ok (.if_icmp .lt 5, 3) := dgX2_holds_1 (69, (.if_icmp .lt 5, 3)) (List.mem_of_getElem? (i := 0) rfl)
theorem dX2_holds_72 : decode cX2_holds 72 = .ok (.iconst 0, 1) := dgX2_holds_1 (72, (.iconst 0, 1)) (List.mem_of_getElem? (i := 1) rfl)
theorem dX2_holds_73 : decode cX2_holds 73 = .ok (.ireturn, 1) := dgX2_holds_1 (73, (.ireturn, 1)) (List.mem_of_getElem? (i := 2) rfl)
theorem dX2_holds_74 : decode cX2_holds 74 = .ok (.aload_n 0, 1) := dgX2_holds_1 (74, (.aload_n 0, 1)) (List.mem_of_getElem? (i := 3) rfl)
theorem dX2_holds_75 : decode cX2_holds 75 = .ok (.getfield 15, 3) := dgX2_holds_1 (75, (.getfield 15, 3)) (List.mem_of_getElem? (i := 4) rfl)
theorem dX2_holds_78 : decode cX2_holds 78 = .ok (.iload_n 3, 1) := dgX2_holds_1 (78, (.iload_n 3, 1)) (List.mem_of_getElem? (i := 5) rfl)
theorem dX2_holds_79 : decode cX2_holds 79 = .ok (.iload 6, 2) := dgX2_holds_1 (79, (.iload 6, 2)) (List.mem_of_getElem? (i := 6) rfl)
theorem dX2_holds_81 : decode cX2_holds 81 = .ok (.ifCond .ne 9, 3) := dgX2_holds_1 (81, (.ifCond .ne 9, 3)) (List.mem_of_getElem? (i := 7) rfl)
theorem dX2_holds_84 : decode cX2_holds 84 = .ok (.iload 7, 2) := dgX2_holds_1 (84, (.iload 7, 2)) (List.mem_of_getElem? (i := 8) rfl)
theorem dX2_holds_86 : decode cX2_holds 86 = .ok (.i2l, 1) := dgX2_holds_1 (86, (.i2l, 1)) (List.mem_of_getElem? (i := 9) rfl)
theorem dX2_holds_87 : decode cX2_holds 87 = .ok (.goto 11, 3) := dgX2_holds_1 (87, (.goto 11, 3)) (List.mem_of_getElem? (i := 10) rfl)
theorem dX2_holds_90 : decode cX2_holds 90 = .ok (.aload_n 0, 1) := dgX2_holds_1 (90, (.aload_n 0, 1)) (List.mem_of_getElem? (i := 11) rfl)
theorem dX2_holds_91 : decode cX2_holds 91 = .ok (.getfield 9, 3) := dgX2_holds_1 (91, (.getfield 9, 3)) (List.mem_of_getElem? (i := 12) rfl)
theorem dX2_holds_94 : decode cX2_holds 94 = .ok (.iload 7, 2) := dgX2_holds_1 (94, (.iload 7, 2)) (List.mem_of_getElem? (i := 13) rfl)
theorem dX2_holds_96 : decode cX2_holds 96 = .ok (.iaload, 1) := dgX2_holds_1 (96, (.iaload, 1)) (List.mem_of_getElem? (i := 14) rfl)
theorem dX2_holds_97 : decode cX2_holds 97 = .ok (.i2l, 1) := dgX2_holds_1 (97, (.i2l, 1)) (List.mem_of_getElem? (i := 15) rfl)
theorem dX2_holds_98 : decode cX2_holds 98 = .ok (.lastore, 1) := dgX2_holds_1 (98, (.lastore, 1)) (List.mem_of_getElem? (i := 16) rfl)
theorem dX2_holds_99 : decode cX2_holds 99 = .ok (.iinc 3 1, 3) := dgX2_holds_1 (99, (.iinc 3 1, 3)) (List.mem_of_getElem? (i := 17) rfl)
theorem dX2_holds_102 : decode cX2_holds 102 = .ok (.goto 135, 3) := dgX2_holds_1 (102, (.goto 135, 3)) (List.mem_of_getElem? (i := 18) rfl)
theorem dX2_holds_105 : decode cX2_holds 105 = .ok (.iload 6, 2) := dgX2_holds_1 (105, (.iload 6, 2)) (List.mem_of_getElem? (i := 19) rfl)
theorem dX2_holds_107 : decode cX2_holds 107 = .ok (.bipush 8, 2) := dgX2_holds_1 (107, (.bipush 8, 2)) (List.mem_of_getElem? (i := 20) rfl)
theorem dX2_holds_109 : decode cX2_holds 109 = .ok (.if_icmp .gt 20, 3) := dgX2_holds_1 (109, (.if_icmp .gt 20, 3)) (List.mem_of_getElem? (i := 21) rfl)
theorem dX2_holds_112 : decode cX2_holds 112 = .ok (.iinc 3 (-1), 3) := dgX2_holds_1 (112, (.iinc 3 (-1), 3)) (List.mem_of_getElem? (i := 22) rfl)
theorem dX2_holds_115 : decode cX2_holds 115 = .ok (.aload_n 0, 1) := dgX2_holds_1 (115, (.aload_n 0, 1)) (List.mem_of_getElem? (i := 23) rfl)
theorem dX2_holds_116 : decode cX2_holds 116 = .ok (.iload 6, 2) := dgX2_holds_1 (116, (.iload 6, 2)) (List.mem_of_getElem? (i := 24) rfl)
theorem dX2_holds_118 : decode cX2_holds 118 = .ok (.iload_n 3, 1) := dgX2_holds_1 (118, (.iload_n 3, 1)) (List.mem_of_getElem? (i := 25) rfl)
theorem dX2_holds_119 : decode cX2_holds 119 = .ok (.iconst 1, 1) := dgX2_holds_1 (119, (.iconst 1, 1)) (List.mem_of_getElem? (i := 26) rfl)
theorem dX2_holds_120 : decode cX2_holds 120 = .ok (.isub, 1) := dgX2_holds_1 (120, (.isub, 1)) (List.mem_of_getElem? (i := 27) rfl)
theorem dX2_holds_121 : decode cX2_holds 121 = .ok (.invokevirtual 47, 3) := dgX2_holds_1 (121, (.invokevirtual 47, 3)) (List.mem_of_getElem? (i := 28) rfl)
theorem dX2_holds_124 : decode cX2_holds 124 = .ok (.ifCond .ne 113, 3) := dgX2_holds_1 (124, (.ifCond .ne 113, 3)) (List.mem_of_getElem? (i := 29) rfl)
theorem dX2_holds_127 : decode cX2_holds 127 = .ok (.iconst 0, 1) := dgX2_holds_1 (127, (.iconst 0, 1)) (List.mem_of_getElem? (i := 30) rfl)
theorem dX2_holds_128 : decode cX2_holds 128 = .ok (.ireturn, 1) := dgX2_holds_1 (128, (.ireturn, 1)) (List.mem_of_getElem? (i := 31) rfl)
theorem dX2_holds_129 : decode cX2_holds 129 = .ok (.iload_n 3, 1) := dgX2_holds_1 (129, (.iload_n 3, 1)) (List.mem_of_getElem? (i := 32) rfl)
theorem dX2_holds_130 : decode cX2_holds 130 = .ok (.iconst 1, 1) := dgX2_holds_1 (130, (.iconst 1, 1)) (List.mem_of_getElem? (i := 33) rfl)
theorem dX2_holds_131 : decode cX2_holds 131 = .ok (.if_icmp .ge 5, 3) := dgX2_holds_1 (131, (.if_icmp .ge 5, 3)) (List.mem_of_getElem? (i := 34) rfl)
theorem dX2_holds_134 : decode cX2_holds 134 = .ok (.iconst 0, 1) := dgX2_holds_1 (134, (.iconst 0, 1)) (List.mem_of_getElem? (i := 35) rfl)
theorem dX2_holds_135 : decode cX2_holds 135 = .ok (.ireturn, 1) := dgX2_holds_1 (135, (.ireturn, 1)) (List.mem_of_getElem? (i := 36) rfl)
theorem dX2_holds_136 : decode cX2_holds 136 = .ok (.iload 6, 2) := dgX2_holds_1 (136, (.iload 6, 2)) (List.mem_of_getElem? (i := 37) rfl)
theorem dX2_holds_138 : decode cX2_holds 138 = .ok (.bipush 9, 2) := dgX2_holds_1 (138, (.bipush 9, 2)) (List.mem_of_getElem? (i := 38) rfl)
theorem dX2_holds_140 : decode cX2_holds 140 = .ok (.if_icmp .ne 24, 3) := dgX2_holds_1 (140, (.if_icmp .ne 24, 3)) (List.mem_of_getElem? (i := 39) rfl)
theorem dgX2_holds_2 : ∀ r ∈ ([(143, (.aload_n 0, 1)), (144, (.getfield 15, 3)), (147, (.iload_n 3, 1)), (148, (.iconst 1, 1)), (149, (.isub, 1)), (150, (.lconst 1, 1)), (151, (.aload_n 0, 1)), (152, (.getfield 15, 3)), (155, (.iload_n 3, 1)), (156, (.iconst 1, 1)), (157, (.isub, 1)), (158, (.laload, 1)), (159, (.lsub, 1)), (160, (.lastore, 1)), (161, (.goto 76, 3)), (164, (.iload 6, 2)), (166, (.bipush 10, 2)), (168, (.if_icmp .ne 19, 3)), (171, (.iinc 3 (-1), 3)), (174, (.aload_n 0, 1)), (175, (.getfield 15, 3)), (178, (.iload_n 3, 1)), (179, (.laload, 1)), (180, (.lconst 0, 1)), (181, (.lcmp, 1)), (182, (.ifCond .ne 55, 3)), (185, (.iconst 0, 1)), (186, (.ireturn, 1)), (187, (.aload_n 0, 1)), (188, (.getfield 15, 3)), (191, (.iload_n 3, 1)), (192, (.iconst 1, 1)), (193, (.isub, 1)), (194, (.laload, 1)), (195, (.lconst 0, 1)), (196, (.lcmp, 1)), (197, (.ifCond .eq 7, 3)), (200, (.iconst 1, 1)), (201, (.goto 4, 3)), (204, (.iconst 0, 1))] : List (Nat × (Instr × Nat))), decode cX2_holds r.1 = .ok r.2 := by decide +kernel
theorem dX2_holds_143 : decode cX2_holds 143 = .ok (.aload_n 0, 1) := dgX2_holds_2 (143, (.aload_n 0, 1)) (List.mem_of_getElem? (i := 0) rfl)
theorem dX2_holds_144 : decode cX2_holds 144 = .ok (.getfield 15, 3) := dgX2_holds_2 (144, (.getfield 15, 3)) (List.mem_of_getElem? (i := 1) rfl)
theorem dX2_holds_147 : decode cX2_holds 147 = .ok (.iload_n 3, 1) := dgX2_holds_2 (147, (.iload_n 3, 1)) (List.mem_of_getElem? (i := 2) rfl)
theorem dX2_holds_148 : decode cX2_holds 148 = .ok (.iconst 1, 1) := dgX2_holds_2 (148, (.iconst 1, 1)) (List.mem_of_getElem? (i := 3) rfl)
theorem dX2_holds_149 : decode cX2_holds 149 = .ok (.isub, 1) := dgX2_holds_2 (149, (.isub, 1)) (List.mem_of_getElem? (i := 4) rfl)
theorem dX2_holds_150 : decode cX2_holds 150 = .ok (.lconst 1, 1) := dgX2_holds_2 (150, (.lconst 1, 1)) (List.mem_of_getElem? (i := 5) rfl)
theorem dX2_holds_151 : decode cX2_holds 151 = .ok (.aload_n 0, 1) := dgX2_holds_2 (151, (.aload_n 0, 1)) (List.mem_of_getElem? (i := 6) rfl)
theorem dX2_holds_152 : decode cX2_holds 152 = .ok (.getfield 15, 3) := dgX2_holds_2 (152, (.getfield 15, 3)) (List.mem_of_getElem? (i := 7) rfl)
theorem dX2_holds_155 : decode cX2_holds 155 = .ok (.iload_n 3, 1) := dgX2_holds_2 (155, (.iload_n 3, 1)) (List.mem_of_getElem? (i := 8) rfl)
theorem dX2_holds_156 : decode cX2_holds 156 = .ok (.iconst 1, 1) := dgX2_holds_2 (156, (.iconst 1, 1)) (List.mem_of_getElem? (i := 9) rfl)
theorem dX2_holds_157 : decode cX2_holds 157 = .ok (.isub, 1) := dgX2_holds_2 (157, (.isub, 1)) (List.mem_of_getElem? (i := 10) rfl)
theorem dX2_holds_158 : decode cX2_holds 158 = .ok (.laload, 1) := dgX2_holds_2 (158, (.laload, 1)) (List.mem_of_getElem? (i := 11) rfl)
theorem dX2_holds_159 : decode cX2_holds 159 = .ok (.lsub, 1) := dgX2_holds_2 (159, (.lsub, 1)) (List.mem_of_getElem? (i := 12) rfl)
theorem dX2_holds_160 : decode cX2_holds 160 = .ok (.lastore, 1) := dgX2_holds_2 (160, (.lastore, 1)) (List.mem_of_getElem? (i := 13) rfl)
theorem dX2_holds_161 : decode cX2_holds 161 = .ok (.goto 76, 3) := dgX2_holds_2 (161, (.goto 76, 3)) (List.mem_of_getElem? (i := 14) rfl)
theorem dX2_holds_164 : decode cX2_holds 164 = .ok (.iload 6, 2) := dgX2_holds_2 (164, (.iload 6, 2)) (List.mem_of_getElem? (i := 15) rfl)
theorem dX2_holds_166 : decode cX2_holds 166 = .ok (.bipush 10, 2) := dgX2_holds_2 (166, (.bipush 10, 2)) (List.mem_of_getElem? (i := 16) rfl)
theorem dX2_holds_168 : decode cX2_holds 168 = .ok (.if_icmp .ne 19, 3) := dgX2_holds_2 (168, (.if_icmp .ne 19, 3)) (List.mem_of_getElem? (i := 17) rfl)
theorem dX2_holds_171 : decode cX2_holds 171 = .ok (.iinc 3 (-1), 3) := dgX2_holds_2 (171, (.iinc 3 (-1), 3)) (List.mem_of_getElem? (i := 18) rfl)
theorem dX2_holds_174 : decode cX2_holds 174 = .ok (.aload_n 0, 1) := dgX2_holds_2 (174, (.aload_n 0, 1)) (List.mem_of_getElem? (i := 19) rfl)
theorem dX2_holds_175 : decode cX2_holds 175 = .ok (.getfield 15, 3) := dgX2_holds_2 (175, (.getfield 15, 3)) (List.mem_of_getElem? (i := 20) rfl)
theorem dX2_holds_178 : decode cX2_holds 178 = .ok (.iload_n 3, 1) := dgX2_holds_2 (178, (.iload_n 3, 1)) (List.mem_of_getElem? (i := 21) rfl)
theorem dX2_holds_179 : decode cX2_holds 179 = .ok (.laload, 1) := dgX2_holds_2 (179, (.laload, 1)) (List.mem_of_getElem? (i := 22) rfl)
theorem dX2_holds_180 : decode cX2_holds 180 = .ok (.lconst 0, 1) := dgX2_holds_2 (180, (.lconst 0, 1)) (List.mem_of_getElem? (i := 23) rfl)
theorem dX2_holds_181 : decode cX2_holds 181 = .ok (.lcmp, 1) := dgX2_holds_2 (181, (.lcmp, 1)) (List.mem_of_getElem? (i := 24) rfl)
theorem dX2_holds_182 : decode cX2_holds 182 = .ok (.ifCond .ne 55, 3) := dgX2_holds_2 (182, (.ifCond .ne 55, 3)) (List.mem_of_getElem? (i := 25) rfl)
theorem dX2_holds_185 : decode cX2_holds 185 = .ok (.iconst 0, 1) := dgX2_holds_2 (185, (.iconst 0, 1)) (List.mem_of_getElem? (i := 26) rfl)
theorem dX2_holds_186 : decode cX2_holds 186 = .ok (.ireturn, 1) := dgX2_holds_2 (186, (.ireturn, 1)) (List.mem_of_getElem? (i := 27) rfl)
theorem dX2_holds_187 : decode cX2_holds 187 = .ok (.aload_n 0, 1) := dgX2_holds_2 (187, (.aload_n 0, 1)) (List.mem_of_getElem? (i := 28) rfl)
theorem dX2_holds_188 : decode cX2_holds 188 = .ok (.getfield 15, 3) := dgX2_holds_2 (188, (.getfield 15, 3)) (List.mem_of_getElem? (i := 29) rfl)
theorem dX2_holds_191 : decode cX2_holds 191 = .ok (.iload_n 3, 1) := dgX2_holds_2 (191, (.iload_n 3, 1)) (List.mem_of_getElem? (i := 30) rfl)
theorem dX2_holds_192 : decode cX2_holds 192 = .ok (.iconst 1, 1) := dgX2_holds_2 (192, (.iconst 1, 1)) (List.mem_of_getElem? (i := 31) rfl)
theorem dX2_holds_193 : decode cX2_holds 193 = .ok (.isub, 1) := dgX2_holds_2 (193, (.isub, 1)) (List.mem_of_getElem? (i := 32) rfl)
theorem dX2_holds_194 : decode cX2_holds 194 = .ok (.laload, 1) := dgX2_holds_2 (194, (.laload, 1)) (List.mem_of_getElem? (i := 33) rfl)
theorem dX2_holds_195 : decode cX2_holds 195 = .ok (.lconst 0, 1) := dgX2_holds_2 (195, (.lconst 0, 1)) (List.mem_of_getElem? (i := 34) rfl)
theorem dX2_holds_196 : decode cX2_holds 196 = .ok (.lcmp, 1) := dgX2_holds_2 (196, (.lcmp, 1)) (List.mem_of_getElem? (i := 35) rfl)
theorem dX2_holds_197 : decode cX2_holds 197 = .ok (.ifCond .eq 7, 3) := dgX2_holds_2 (197, (.ifCond .eq 7, 3)) (List.mem_of_getElem? (i := 36) rfl)
theorem dX2_holds_200 : decode cX2_holds 200 = .ok (.iconst 1, 1) := dgX2_holds_2 (200, (.iconst 1, 1)) (List.mem_of_getElem? (i := 37) rfl)
theorem dX2_holds_201 : decode cX2_holds 201 = .ok (.goto 4, 3) := dgX2_holds_2 (201, (.goto 4, 3)) (List.mem_of_getElem? (i := 38) rfl)
theorem dX2_holds_204 : decode cX2_holds 204 = .ok (.iconst 0, 1) := dgX2_holds_2 (204, (.iconst 0, 1)) (List.mem_of_getElem? (i := 39) rfl)
theorem dgX2_holds_3 : ∀ r ∈ ([(205, (.iload 6, 2)), (207, (.bipush 11, 2)), (209, (.if_icmp .ne 7, 3)), (212, (.iconst 1, 1)), (213, (.goto 4, 3)), (216, (.iconst 0, 1)), (217, (.if_icmp .ne 17, 3)), (220, (.iload 5, 2)), (222, (.iload 7, 2)), (224, (.iconst 1, 1)), (225, (.isub, 1)), (226, (.invokestatic 51, 3)), (229, (.istore 5, 2)), (231, (.goto 6, 3)), (234, (.iinc 3 (-1), 3)), (237, (.iinc 5 1, 3)), (240, (.goto (-220), 3)), (243, (.iconst 1, 1)), (244, (.ireturn, 1))] : List (Nat × (Instr × Nat))), decode cX2_holds r.1 = .ok r.2 := by decide +kernel
theorem dX2_holds_205 : decode cX2_holds 205 = .ok (.iload 6, 2) := dgX2_holds_3 (205, (.iload 6, 2)) (List.mem_of_getElem? (i := 0) rfl)
theorem dX2_holds_207 : decode cX2_holds 207 = .ok (.bipush 11, 2) := dgX2_holds_3 (207, (.bipush 11, 2)) (List.mem_of_getElem? (i := 1) rfl)
theorem dX2_holds_209 : decode cX2_holds 209 = .ok (.if_icmp .ne 7, 3) := dgX2_holds_3 (209, (.if_icmp .ne 7, 3)) (List.mem_of_getElem? (i := 2) rfl)
theorem dX2_holds_212 : decode cX2_holds 212 = .ok (.iconst 1, 1) := dgX2_holds_3 (212, (.iconst 1, 1)) (List.mem_of_getElem? (i := 3) rfl)
theorem dX2_holds_213 : decode cX2_holds 213 = .ok (.goto 4, 3) := dgX2_holds_3 (213, (.goto 4, 3)) (List.mem_of_getElem? (i := 4) rfl)
theorem dX2_holds_216 : decode cX2_holds 216 = .ok (.iconst 0, 1) := dgX2_holds_3 (216, (.iconst 0, 1)) (List.mem_of_getElem? (i := 5) rfl)
theorem dX2_holds_217 : decode cX2_holds 217 = .ok (.if_icmp .ne 17, 3) := dgX2_holds_3 (217, (.if_icmp .ne 17, 3)) (List.mem_of_getElem? (i := 6) rfl)
theorem dX2_holds_220 : decode cX2_holds 220 = .ok (.iload 5, 2) := dgX2_holds_3 (220, (.iload 5, 2)) (List.mem_of_getElem? (i := 7) rfl)
theorem dX2_holds_222 : decode cX2_holds 222 = .ok (.iload 7, 2) := dgX2_holds_3 (222, (.iload 7, 2)) (List.mem_of_getElem? (i := 8) rfl)
theorem dX2_holds_224 : decode cX2_holds 224 = .ok (.iconst 1, 1) := dgX2_holds_3 (224, (.iconst 1, 1)) (List.mem_of_getElem? (i := 9) rfl)
theorem dX2_holds_225 : decode cX2_holds 225 = .ok (.isub, 1) := dgX2_holds_3 (225, (.isub, 1)) (List.mem_of_getElem? (i := 10) rfl)
theorem dX2_holds_226 : decode cX2_holds 226 = .ok (.invokestatic 51, 3) := dgX2_holds_3 (226, (.invokestatic 51, 3)) (List.mem_of_getElem? (i := 11) rfl)
theorem dX2_holds_229 : decode cX2_holds 229 = .ok (.istore 5, 2) := dgX2_holds_3 (229, (.istore 5, 2)) (List.mem_of_getElem? (i := 12) rfl)
theorem dX2_holds_231 : decode cX2_holds 231 = .ok (.goto 6, 3) := dgX2_holds_3 (231, (.goto 6, 3)) (List.mem_of_getElem? (i := 13) rfl)
theorem dX2_holds_234 : decode cX2_holds 234 = .ok (.iinc 3 (-1), 3) := dgX2_holds_3 (234, (.iinc 3 (-1), 3)) (List.mem_of_getElem? (i := 14) rfl)
theorem dX2_holds_237 : decode cX2_holds 237 = .ok (.iinc 5 1, 3) := dgX2_holds_3 (237, (.iinc 5 1, 3)) (List.mem_of_getElem? (i := 15) rfl)
theorem dX2_holds_240 : decode cX2_holds 240 = .ok (.goto (-220), 3) := dgX2_holds_3 (240, (.goto (-220), 3)) (List.mem_of_getElem? (i := 16) rfl)
theorem dX2_holds_243 : decode cX2_holds 243 = .ok (.iconst 1, 1) := dgX2_holds_3 (243, (.iconst 1, 1)) (List.mem_of_getElem? (i := 17) rfl)
theorem dX2_holds_244 : decode cX2_holds 244 = .ok (.ireturn, 1) := dgX2_holds_3 (244, (.ireturn, 1)) (List.mem_of_getElem? (i := 18) rfl)
theorem inG_X3 : ∀ w ∈ wsX30, w ∈ tblG := tgs [786, 788, 790, 792] (by decide +kernel) (by decide +kernel)
theorem fl_X2_41 : Cond.fieldLink RX2 41 "LateGlass$Law" "starts" "[I" ∈ tblG := tg 783 (by decide +kernel) (by decide +kernel)
theorem fl_X2_44 : Cond.fieldLink RX2 44 "LateGlass$Law" "code" "[I" ∈ tblG := tg 785 (by decide +kernel) (by decide +kernel)
theorem ml_X2_51 : Cond.methodLink RX2 51 Lib.Math.max.name ∈ tblG := tg 852 (by decide +kernel) (by decide +kernel)
theorem st_Math_maxI : Cond.static Lib.Math.max.name ∈ tblG := tg 853 (by decide +kernel) (by decide +kernel)
theorem ini_Math : Cond.initialized "java/lang/Math" ∈ tblG := tg 106 (by decide +kernel) (by decide +kernel)
theorem cd_Math_maxI : Cond.code Lib.Math.max.name Lib.Math.max.code 2 (some .int) ∈ tblG := tg 854 (by decide +kernel) (by decide +kernel)
theorem ml_X2_47 : Cond.methodLink RX2 47 yX2_combine ∈ tblG := tg 846 (by decide +kernel) (by decide +kernel)
theorem im_X2_combine : Cond.instanceMethod yX2_combine ∈ tblG := tg 848 (by decide +kernel) (by decide +kernel)
theorem se_X2_combine : Cond.selects RX2 yX2_combine yX2_combine ∈ tblG := tg 17 (by decide +kernel) (by decide +kernel)
theorem ini_X2 : Cond.initialized RX2 ∈ tblG := tg 92 (by decide +kernel) (by decide +kernel)
theorem cd_X2_combine : Cond.code yX2_combine cX2_combine 9 (some .boolean) ∈ tblG := tg 849 (by decide +kernel) (by decide +kernel)
theorem gW_X2_combine : GoodIn tblG (wsG yX2_combine cX2_combine 9 (some .boolean)) := tgi cd_X2_combine
theorem gV_X2_47 : GoodIn tblG (wsV RX2 47 RX2 yX2_combine (wsG yX2_combine cX2_combine 9 (some .boolean))) := tgV ml_X2_47 im_X2_combine se_X2_combine ini_X2 gW_X2_combine
theorem hv_X2_combine : yX2_combine.cls = RX2 ∧ yX2_combine.cls ≠ "java/lang/invoke/MethodHandle" ∧ yX2_combine.cls ≠ "java/lang/invoke/VarHandle" ∧ (parseMethodDescriptor yX2_combine.desc).map (fun d => d.parameters.length) = some 2 := by decide +kernel
theorem fl_X2_9 : Cond.fieldLink RX2 9 "LateGlass$Judge" "asked" "[I" ∈ tblG := tg 234 (by decide +kernel) (by decide +kernel)
set_option maxHeartbeats 4000000 in
set_option maxRecDepth 100000 in
theorem j_holds (l : Launch) (G : g5_G) (a_j a_as a_sk a_lo a_sr a_cd a_hd : Nat) (sz : Nat) (p_c : Int32) (e_cl : Int32) (f_as : Nat → Int32) (f_sk : Nat → Int64) (f_sr : Nat → Int32) (f_cd : Nat → Int32) (n_sr : Nat) (n_cd : Nat) (h_p_c : 0 ≤ p_c.toInt ∧ p_c.toInt ≤ 11) (h_e_cl : 0 ≤ e_cl.toInt ∧ e_cl.toInt ≤ 12) (e_q : (p_c.toInt + 1 : Int) < (n_sr : Int)) (e_hn : n_cd ≤ 400) (e_hs : ∀ j : Nat, j < n_sr → 0 ≤ (f_sr j).toInt ∧ (f_sr j).toInt ≤ (n_cd : Int)) (e_hk : ∀ j : Nat, j < n_cd → (f_cd j >>> (12 &&& 31)).toInt = 1 → (f_cd j &&& 4095).toInt < 8) : Met l yX2_holds (wsG yX2_holds cX2_holds 8 (some .boolean)) ({ frames := 1, cells := 0, slots := 0, locals := 28 }) (va_Pc [.ref a_j, .ref a_lo, .int p_c] (g5_P G [(a_j, (oc2 a_as a_sk)), (a_as, (arI G 8 f_as)), (a_sk, (arJ G 50 f_sk)), (a_lo, (oc3 e_cl a_hd a_sr a_cd)), (a_sr, (arI G n_sr f_sr)), (a_cd, (arI G n_cd f_cd))] sz)) (va_Qi (fun (r : Int32) (u : va_W) => (∃ (o_r : Int32) (o_k : Nat → Int64), (0 ≤ o_r.toInt ∧ o_r.toInt ≤ 1) ∧ (r = o_r) ∧ (u = [(a_j, (oc2 a_as a_sk)), (a_as, (arI G 8 f_as)), (a_sk, (arJ G 50 o_k)), (a_lo, (oc3 e_cl a_hd a_sr a_cd)), (a_sr, (arI G n_sr f_sr)), (a_cd, (arI G n_cd f_cd))]))) (g5_B G (va_A [(a_j, (oc2 a_as a_sk)), (a_as, (arI G 8 f_as)), (a_sk, (arJ G 50 f_sk)), (a_lo, (oc3 e_cl a_hd a_sr a_cd)), (a_sr, (arI G n_sr f_sr)), (a_cd, (arI G n_cd f_cd))] sz)) (va_A [(a_j, (oc2 a_as a_sk)), (a_as, (arI G 8 f_as)), (a_sk, (arJ G 50 f_sk)), (a_lo, (oc3 e_cl a_hd a_sr a_cd)), (a_sr, (arI G n_sr f_sr)), (a_cd, (arI G n_cd f_cd))] sz)) 0 0 (va_A [(a_j, (oc2 a_as a_sk)), (a_as, (arI G 8 f_as)), (a_sk, (arJ G 50 f_sk)), (a_lo, (oc3 e_cl a_hd a_sr a_cd)), (a_sr, (arI G n_sr f_sr)), (a_cd, (arI G n_cd f_cd))] sz) := by
  refine Met.ofW (cc := cX2_holds) (maxL := 8) (ret := (some .boolean)) (by decide +kernel) rfl ?_
  intro p e s m args below meth c s₁ B hml hv
  obtain ⟨rfl, hsz, hP, hK, hD0, hN, hT⟩ := hv
  have hx := B.exec
  have hb := B.bytes
  have hr := B.returns
  have hts : ∀ w ∈ tblG, w.before _ s = true := fun w h => atoms_spec (ws := (wsG yX2_holds cX2_holds 8 (some .boolean))) B.pre w (List.mem_cons_of_mem _ h)
  have hown : s.vm.findClass RX2 = some m.cls := findClass_of_methodNamed B.named
  have hlocks := B.notSynchronized
  subst hsz
  have hD := hD0.self (sz := s.heap.size)
  generalize hAe : va_A [(a_j, (oc2 a_as a_sk)), (a_as, (arI G 8 f_as)), (a_sk, (arJ G 50 f_sk)), (a_lo, (oc3 e_cl a_hd a_sr a_cd)), (a_sr, (arI G n_sr f_sr)), (a_cd, (arI G n_cd f_cd))] s.heap.size = A at hD hT ⊢
  have hA : ∀ q : Nat, s.heap.size ≤ q → A q := fun q h => by rw [← hAe]; exact Or.inr h
  have hS : va_S A s.heap s.heap [] := va_S.rf
  replace hP : va_P G.1 vwCl [(a_j, (oc2 a_as a_sk)), (a_as, (arI G 8 f_as)), (a_sk, (arJ G 50 f_sk)), (a_lo, (oc3 e_cl a_hd a_sr a_cd)), (a_sr, (arI G n_sr f_sr)), (a_cd, (arI G n_cd f_cd))] s.heap := hP
  have hl := lv_entry ([.ref a_j, .ref a_lo, .int p_c]) (n := 8) (Nat.le_of_ble_eq_true rfl)
  rw [lg_entry_eq]
  generalize (lg_sl ([.ref a_j, .ref a_lo, .int p_c]) ++ List.replicate (8 - (lg_sl ([.ref a_j, .ref a_lo, .int p_c])).length) Slot.unset).toArray = ls at hl ⊢
  replace hl : lv_has ls 8 [(0, .ref a_j), (1, .ref a_lo), (2, .int p_c)] := hl
  refine lv_iconst (v := 0) hx hb dX2_holds_0 (by decide +kernel) ?_
  refine lv_istore_n (lv' := [(3, .int 0), (0, .ref a_j), (1, .ref a_lo), (2, .int p_c)]) hx hb dX2_holds_1 rfl hl (by decide +kernel) rfl ?_
  clear hl
  intro ls hl
  refine lv_aload_n hx hb dX2_holds_2 rfl (lv_at hl 2 rfl) ?_
  refine va_get (D := G.1) (ci := 3) (v := .ref a_sr) (C := RX3) (T := TX3) (N := 4) hx hb hts inG_X3 hown hK hP 3 rfl rfl 2 (by decide +kernel) (hts _ fl_X2_41) (fun _ h9 => h9) rfl dX2_holds_3 ?_
  refine W.eq (g2 := F0 m 6 ls [.ref a_sr]) rfl ?_
  refine lv_iload_n hx hb dX2_holds_6 rfl (lv_at hl 3 rfl) ?_
  refine lv_iconst (v := 1) hx hb dX2_holds_7 (by decide +kernel) ?_
  refine lv_iadd hx hb dX2_holds_8 ?_
  have t_1 : (p_c + 1).toInt = p_c.toInt + 1 := g5_iadd (a := p_c.toInt) (b := 1) (by rfl) (by decide +kernel) (by omega) (by omega)
  refine va_iald hx hb hK hP 4 0 rfl rfl (i := (p_c + 1)) (vp_in_iff.mpr ⟨by omega, by omega⟩) dX2_holds_9 ?_
  refine lv_istore (lv' := [(4, .int (f_sr (p_c + 1).toNatClampNeg)), (3, .int 0), (0, .ref a_j), (1, .ref a_lo), (2, .int p_c)]) hx hb dX2_holds_10 hl (by decide +kernel) rfl ?_
  clear hl
  intro ls hl
  refine W.eq (g2 := F0 m 12 ls []) rfl ?_
  refine lv_aload_n hx hb dX2_holds_12 rfl (lv_at hl 3 rfl) ?_
  refine va_get (D := G.1) (ci := 3) (v := .ref a_sr) (C := RX3) (T := TX3) (N := 4) hx hb hts inG_X3 hown hK hP 3 rfl rfl 2 (by decide +kernel) (hts _ fl_X2_41) (fun _ h9 => h9) rfl dX2_holds_13 ?_
  refine lv_iload_n hx hb dX2_holds_16 rfl (lv_at hl 4 rfl) ?_
  refine va_iald hx hb hK hP 4 0 rfl rfl (i := p_c) (vp_in_iff.mpr ⟨by omega, by omega⟩) dX2_holds_17 ?_
  refine lv_istore (lv' := [(5, .int (f_sr p_c.toNatClampNeg)), (4, .int (f_sr (p_c + 1).toNatClampNeg)), (3, .int 0), (0, .ref a_j), (1, .ref a_lo), (2, .int p_c)]) hx hb dX2_holds_18 hl (by decide +kernel) rfl ?_
  clear hl
  intro ls hl
  have hs_2 : 0 ≤ (f_sr (p_c + 1).toNatClampNeg).toInt ∧ (f_sr (p_c + 1).toNatClampNeg).toInt ≤ (n_cd : Int) := e_hs _ (by have zz := g5_clamp (p_c + 1); omega)
  have hs_3 : 0 ≤ (f_sr p_c.toNatClampNeg).toInt ∧ (f_sr p_c.toNatClampNeg).toInt ≤ (n_cd : Int) := e_hs _ (by have zz := g5_clamp p_c; omega)
  refine g5_loop (α := (Int32) × (Int32) × (Nat → Int64)) (fun (q : (Int32) × (Int32) × (Nat → Int64)) (ls : Array Slot) (H : Heap) (locs : List Loc) => match q with | (k_t, k_a, k_k) => lv_has ls 8 [(3, .int k_t), (5, .int k_a), (4, .int (f_sr (p_c + 1).toNatClampNeg)), (0, .ref a_j), (1, .ref a_lo), (2, .int p_c)] ∧ va_P G.1 vwCl [(a_j, (oc2 a_as a_sk)), (a_as, (arI G 8 f_as)), (a_sk, (arJ G 50 k_k)), (a_lo, (oc3 e_cl a_hd a_sr a_cd)), (a_sr, (arI G n_sr f_sr)), (a_cd, (arI G n_cd f_cd))] H ∧ va_D A [(a_j, (oc2 a_as a_sk)), (a_as, (arI G 8 f_as)), (a_sk, (arJ G 50 k_k)), (a_lo, (oc3 e_cl a_hd a_sr a_cd)), (a_sr, (arI G n_sr f_sr)), (a_cd, (arI G n_cd f_cd))] ∧ va_S A s.heap H locs ∧ (0 ≤ k_t.toInt ∧ k_t.toInt ≤ 50) ∧ (0 ≤ k_a.toInt ∧ k_a.toInt ≤ 4096)) (fun (q : (Int32) × (Int32) × (Nat → Int64)) => match q with | (k_t, k_a, k_k) => Int.toNat (4096 - k_a.toInt)) (0, (f_sr p_c.toNatClampNeg), f_sk) ⟨lv_sub hl [2, 0, 1, 3, 4, 5] rfl, hP, hD, hS, ⟨by decide, by decide⟩, ⟨by omega, by omega⟩⟩ ?_
  rintro ⟨k_t, k_a, k_k⟩ ls H locs ⟨hl, hP, hD, hS, (i_4 : 0 ≤ k_t.toInt ∧ k_t.toInt ≤ 50), (i_5 : 0 ≤ k_a.toInt ∧ k_a.toInt ≤ 4096)⟩ ih_20_6
  replace hl : lv_has ls 8 [(3, .int k_t), (5, .int k_a), (4, .int (f_sr (p_c + 1).toNatClampNeg)), (0, .ref a_j), (1, .ref a_lo), (2, .int p_c)] := hl
  refine g5_rs [(a_j, (oc2 a_as a_sk)), (a_as, (arI G 8 f_as)), (a_sk, (arJ G 50 k_k)), (a_lo, (oc3 e_cl a_hd a_sr a_cd)), (a_sr, (arI G n_sr f_sr)), (a_cd, (arI G n_cd f_cd))] hP hD ?_
  clear hP hD
  intro hP hD
  refine lv_iload hx hb dX2_holds_20 (lv_at hl 1 rfl) ?_
  refine lv_iload hx hb dX2_holds_22 (lv_at hl 2 rfl) ?_
  refine lv_icmp_ge (tgt := 243) hx hb dX2_holds_24 (by decide +kernel) (fun c_7 => ?_) (fun c_7 => ?_)
  ·
    have i_7 : k_a.toInt ≥ (f_sr (p_c + 1).toNatClampNeg).toInt := g5_ge (a := k_a.toInt) (b := (f_sr (p_c + 1).toNatClampNeg).toInt) rfl rfl c_7
    refine lv_iconst (v := 1) hx hb dX2_holds_243 (by decide +kernel) ?_
    exact W.zret (v := 1) hx hb hr rfl (fun t ht hW => ⟨⟨1, [(a_j, (oc2 a_as a_sk)), (a_as, (arI G 8 f_as)), (a_sk, (arJ G 50 k_k)), (a_lo, (oc3 e_cl a_hd a_sr a_cd)), (a_sr, (arI G n_sr f_sr)), (a_cd, (arI G n_cd f_cd))], rfl, ⟨1, k_k, ⟨by have zc_o_r : (1 : Int32).toInt = 1 := (by decide +kernel); omega, by have zc_o_r : (1 : Int32).toInt = 1 := (by decide +kernel); omega⟩, rfl, rfl⟩, by rw [ht]; exact hP.sub [0, 1, 2, 3, 4, 5] rfl, hD.sub [0, 1, 2, 3, 4, 5] (by decide +kernel) rfl⟩, hS.F ht⟩) hS.2.2 dX2_holds_244
  ·
    have i_7 : k_a.toInt < (f_sr (p_c + 1).toNatClampNeg).toInt := g5_geN (a := k_a.toInt) (b := (f_sr (p_c + 1).toNatClampNeg).toInt) rfl rfl c_7
    refine lv_aload_n hx hb dX2_holds_27 rfl (lv_at hl 4 rfl) ?_
    refine va_get (D := G.1) (ci := 3) (v := .ref a_cd) (C := RX3) (T := TX3) (N := 4) hx hb hts inG_X3 hown hK hP 3 rfl rfl 3 (by decide +kernel) (hts _ fl_X2_44) (fun _ h9 => h9) rfl dX2_holds_28 ?_
    refine lv_iload hx hb dX2_holds_31 (lv_at hl 1 rfl) ?_
    refine va_iald hx hb hK hP 5 0 rfl rfl (i := k_a) (vp_in_iff.mpr ⟨by omega, by omega⟩) dX2_holds_33 ?_
    refine W.eq (g2 := F0 m 34 ls [.int (f_cd k_a.toNatClampNeg)]) rfl ?_
    refine lv_bipush (v := 12) hx hb dX2_holds_34 (by decide +kernel) ?_
    refine lv_ishr hx hb dX2_holds_36 ?_
    refine lv_istore (lv' := [(6, .int ((f_cd k_a.toNatClampNeg) >>> (12 &&& 31))), (3, .int k_t), (5, .int k_a), (4, .int (f_sr (p_c + 1).toNatClampNeg)), (0, .ref a_j), (1, .ref a_lo), (2, .int p_c)]) hx hb dX2_holds_37 hl (by decide +kernel) rfl ?_
    clear hl
    intro ls hl
    refine lv_aload_n hx hb dX2_holds_39 rfl (lv_at hl 5 rfl) ?_
    refine va_get (D := G.1) (ci := 3) (v := .ref a_cd) (C := RX3) (T := TX3) (N := 4) hx hb hts inG_X3 hown hK hP 3 rfl rfl 3 (by decide +kernel) (hts _ fl_X2_44) (fun _ h9 => h9) rfl dX2_holds_40 ?_
    refine W.eq (g2 := F0 m 43 ls [.ref a_cd]) rfl ?_
    refine lv_iload hx hb dX2_holds_43 (lv_at hl 2 rfl) ?_
    refine va_iald hx hb hK hP 5 0 rfl rfl (i := k_a) (vp_in_iff.mpr ⟨by omega, by omega⟩) dX2_holds_45 ?_
    refine lv_sipush (v := 4095) hx hb dX2_holds_46 (by decide +kernel) ?_
    refine lv_iand hx hb dX2_holds_49 ?_
    have ha_8 := g_a4095 (f_cd k_a.toNatClampNeg)
    refine lv_istore (lv' := [(7, .int ((f_cd k_a.toNatClampNeg) &&& 4095)), (6, .int ((f_cd k_a.toNatClampNeg) >>> (12 &&& 31))), (3, .int k_t), (5, .int k_a), (4, .int (f_sr (p_c + 1).toNatClampNeg)), (0, .ref a_j), (1, .ref a_lo), (2, .int p_c)]) hx hb dX2_holds_50 hl (by decide +kernel) rfl ?_
    clear hl
    intro ls hl
    refine W.eq (g2 := F0 m 52 ls []) rfl ?_
    refine lv_iload hx hb dX2_holds_52 (lv_at hl 1 rfl) ?_
    refine lv_if_eq (tgt := 63) hx hb dX2_holds_54 (by decide +kernel) (fun c_9 => ?_) (fun c_9 => ?_)
    ·
      have i_9 : ((f_cd k_a.toNatClampNeg) >>> (12 &&& 31)).toInt = 0 := g5_eq (a := ((f_cd k_a.toNatClampNeg) >>> (12 &&& 31)).toInt) (b := 0) rfl (by decide +kernel) c_9
      refine lv_iload_n hx hb dX2_holds_63 rfl (lv_at hl 2 rfl) ?_
      refine lv_aload_n hx hb dX2_holds_64 rfl (lv_at hl 5 rfl) ?_
      refine va_get (D := G.1) (ci := 2) (v := .ref a_sk) (C := RX2) (T := TX2) (N := 2) hx hb hts inG_X2 hown hK hP 0 rfl rfl 1 (by decide +kernel) (hts _ fl_X2_15) (fun _ h9 => h9) rfl dX2_holds_65 ?_
      refine va_alen hx hb hK hP 2 1 rfl rfl (v := 50) (by show Int32.ofNat 50 = 50; decide) dX2_holds_68 ?_
      refine W.eq (g2 := F0 m 69 ls [.int 50, .int k_t]) rfl ?_
      refine lv_icmp_lt (tgt := 74) hx hb dX2_holds_69 (by decide +kernel) (fun c_10 => ?_) (fun c_10 => ?_)
      ·
        have i_10 : k_t.toInt < 50 := g5_lt (a := k_t.toInt) (b := 50) rfl (by decide +kernel) c_10
        refine lv_aload_n hx hb dX2_holds_74 rfl (lv_at hl 5 rfl) ?_
        refine va_get (D := G.1) (ci := 2) (v := .ref a_sk) (C := RX2) (T := TX2) (N := 2) hx hb hts inG_X2 hown hK hP 0 rfl rfl 1 (by decide +kernel) (hts _ fl_X2_15) (fun _ h9 => h9) rfl dX2_holds_75 ?_
        refine lv_iload_n hx hb dX2_holds_78 rfl (lv_at hl 2 rfl) ?_
        refine lv_iload hx hb dX2_holds_79 (lv_at hl 1 rfl) ?_
        refine W.eq (g2 := F0 m 81 ls [.int ((f_cd k_a.toNatClampNeg) >>> (12 &&& 31)), .int k_t, .ref a_sk]) rfl ?_
        refine lv_if_ne (tgt := 90) hx hb dX2_holds_81 (by decide +kernel) (fun c_11 => ?_) (fun c_11 => ?_)
        ·
          have i_11 : ((f_cd k_a.toNatClampNeg) >>> (12 &&& 31)).toInt ≠ 0 := g5_ne (a := ((f_cd k_a.toNatClampNeg) >>> (12 &&& 31)).toInt) (b := 0) rfl (by decide +kernel) c_11
          omega
        ·
          have i_11 : ((f_cd k_a.toNatClampNeg) >>> (12 &&& 31)).toInt = 0 := g5_neN (a := ((f_cd k_a.toNatClampNeg) >>> (12 &&& 31)).toInt) (b := 0) rfl (by decide +kernel) c_11
          refine lv_iload hx hb dX2_holds_84 (lv_at hl 0 rfl) ?_
          refine lv_i2l (v := ((f_cd k_a.toNatClampNeg) &&& 4095).toInt64) hx hb dX2_holds_86 rfl ?_
          refine lv_goto (tgt := 98) hx hb dX2_holds_87 (by decide +kernel) ?_
          refine va_last hx hb hK hP hD hS 2 1 rfl rfl (i := k_t) (x := ((f_cd k_a.toNatClampNeg) &&& 4095).toInt64) (vp_in_iff.mpr ⟨by omega, by omega⟩) dX2_holds_98 ?_
          clear hP hD hS
          intro H locs hP hD hS
          refine g5_rs [(a_j, (oc2 a_as a_sk)), (a_as, (arI G 8 f_as)), (a_sk, (arJ G 50 (vp_updL k_k k_t.toNatClampNeg (((f_cd k_a.toNatClampNeg) &&& 4095).toInt64)))), (a_lo, (oc3 e_cl a_hd a_sr a_cd)), (a_sr, (arI G n_sr f_sr)), (a_cd, (arI G n_cd f_cd))] hP hD ?_
          clear hP hD
          intro hP hD
          refine W.eq (g2 := F0 m 99 ls []) rfl ?_
          refine lv_iinc (v := (k_t + 1)) (lv' := [(3, .int (k_t + 1)), (7, .int ((f_cd k_a.toNatClampNeg) &&& 4095)), (6, .int ((f_cd k_a.toNatClampNeg) >>> (12 &&& 31))), (5, .int k_a), (4, .int (f_sr (p_c + 1).toNatClampNeg)), (0, .ref a_j), (1, .ref a_lo), (2, .int p_c)]) hx hb dX2_holds_99 hl (k := 2) rfl rfl (by decide +kernel) rfl ?_
          clear hl
          intro ls hl
          have t_12 : (k_t + 1).toInt = k_t.toInt + 1 := g5_iadd (a := k_t.toInt) (b := 1) rfl (by decide +kernel) (by omega) (by omega)
          refine lv_goto (tgt := 237) hx hb dX2_holds_102 (by decide +kernel) ?_
          refine lv_iinc (v := (k_a + 1)) (lv' := [(5, .int (k_a + 1)), (3, .int (k_t + 1)), (7, .int ((f_cd k_a.toNatClampNeg) &&& 4095)), (6, .int ((f_cd k_a.toNatClampNeg) >>> (12 &&& 31))), (4, .int (f_sr (p_c + 1).toNatClampNeg)), (0, .ref a_j), (1, .ref a_lo), (2, .int p_c)]) hx hb dX2_holds_237 hl (k := 3) rfl rfl (by decide +kernel) rfl ?_
          clear hl
          intro ls hl
          have t_13 : (k_a + 1).toInt = k_a.toInt + 1 := g5_iadd (a := k_a.toInt) (b := 1) rfl (by decide +kernel) (by omega) (by omega)
          refine lv_goto (tgt := 20) hx hb dX2_holds_240 (by decide +kernel) ?_
          exact ih_20_6 ((k_t + 1), (k_a + 1), (vp_updL k_k k_t.toNatClampNeg (((f_cd k_a.toNatClampNeg) &&& 4095).toInt64))) ls H locs (show Int.toNat (4096 - (k_a + 1).toInt) < Int.toNat (4096 - k_a.toInt) from g_up (show k_a.toInt < (k_a + 1).toInt by omega) (show k_a.toInt < 4096 by omega)) ⟨lv_sub hl [1, 0, 4, 5, 6, 7] rfl, hP, hD, hS, ⟨by omega, by omega⟩, ⟨by omega, by omega⟩⟩
      ·
        have i_10 : k_t.toInt ≥ 50 := g5_ltN (a := k_t.toInt) (b := 50) rfl (by decide +kernel) c_10
        refine lv_iconst (v := 0) hx hb dX2_holds_72 (by decide +kernel) ?_
        exact W.zret (v := 0) hx hb hr rfl (fun t ht hW => ⟨⟨0, [(a_j, (oc2 a_as a_sk)), (a_as, (arI G 8 f_as)), (a_sk, (arJ G 50 k_k)), (a_lo, (oc3 e_cl a_hd a_sr a_cd)), (a_sr, (arI G n_sr f_sr)), (a_cd, (arI G n_cd f_cd))], rfl, ⟨0, k_k, ⟨by have zc_o_r : (0 : Int32).toInt = 0 := (by decide +kernel); omega, by have zc_o_r : (0 : Int32).toInt = 0 := (by decide +kernel); omega⟩, rfl, rfl⟩, by rw [ht]; exact hP.sub [0, 1, 2, 3, 4, 5] rfl, hD.sub [0, 1, 2, 3, 4, 5] (by decide +kernel) rfl⟩, hS.F ht⟩) hS.2.2 dX2_holds_73
    ·
      have n_9 : gNe (((f_cd k_a.toNatClampNeg) >>> (12 &&& 31)).toInt) (0) := g5_eqN (a := ((f_cd k_a.toNatClampNeg) >>> (12 &&& 31)).toInt) (b := 0) rfl (by decide +kernel) c_9
      refine lv_iload hx hb dX2_holds_57 (lv_at hl 1 rfl) ?_
      refine lv_iconst (v := 1) hx hb dX2_holds_59 (by decide +kernel) ?_
      refine lv_icmp_ne (tgt := 105) hx hb dX2_holds_60 (by decide +kernel) (fun c_14 => ?_) (fun c_14 => ?_)
      ·
        have n_14 : gNe (((f_cd k_a.toNatClampNeg) >>> (12 &&& 31)).toInt) (1) := g5_ne (a := ((f_cd k_a.toNatClampNeg) >>> (12 &&& 31)).toInt) (b := 1) rfl (by decide +kernel) c_14
        refine lv_iload hx hb dX2_holds_105 (lv_at hl 1 rfl) ?_
        refine lv_bipush (v := 8) hx hb dX2_holds_107 (by decide +kernel) ?_
        refine lv_icmp_gt (tgt := 129) hx hb dX2_holds_109 (by decide +kernel) (fun c_15 => ?_) (fun c_15 => ?_)
        ·
          have i_15 : ((f_cd k_a.toNatClampNeg) >>> (12 &&& 31)).toInt > 8 := g5_gt (a := ((f_cd k_a.toNatClampNeg) >>> (12 &&& 31)).toInt) (b := 8) rfl (by decide +kernel) c_15
          refine lv_iload_n hx hb dX2_holds_129 rfl (lv_at hl 2 rfl) ?_
          refine lv_iconst (v := 1) hx hb dX2_holds_130 (by decide +kernel) ?_
          refine lv_icmp_ge (tgt := 136) hx hb dX2_holds_131 (by decide +kernel) (fun c_16 => ?_) (fun c_16 => ?_)
          ·
            have i_16 : k_t.toInt ≥ 1 := g5_ge (a := k_t.toInt) (b := 1) rfl (by decide +kernel) c_16
            refine lv_iload hx hb dX2_holds_136 (lv_at hl 1 rfl) ?_
            refine lv_bipush (v := 9) hx hb dX2_holds_138 (by decide +kernel) ?_
            refine lv_icmp_ne (tgt := 164) hx hb dX2_holds_140 (by decide +kernel) (fun c_17 => ?_) (fun c_17 => ?_)
            ·
              have n_17 : gNe (((f_cd k_a.toNatClampNeg) >>> (12 &&& 31)).toInt) (9) := g5_ne (a := ((f_cd k_a.toNatClampNeg) >>> (12 &&& 31)).toInt) (b := 9) rfl (by decide +kernel) c_17
              have i_17 : ((f_cd k_a.toNatClampNeg) >>> (12 &&& 31)).toInt ≥ 10 := by have z := g5_ne (a := ((f_cd k_a.toNatClampNeg) >>> (12 &&& 31)).toInt) (b := 9) (by rfl) (by decide +kernel) c_17; omega
              refine lv_iload hx hb dX2_holds_164 (lv_at hl 1 rfl) ?_
              refine lv_bipush (v := 10) hx hb dX2_holds_166 (by decide +kernel) ?_
              refine lv_icmp_ne (tgt := 187) hx hb dX2_holds_168 (by decide +kernel) (fun c_18 => ?_) (fun c_18 => ?_)
              ·
                have n_18 : gNe (((f_cd k_a.toNatClampNeg) >>> (12 &&& 31)).toInt) (10) := g5_ne (a := ((f_cd k_a.toNatClampNeg) >>> (12 &&& 31)).toInt) (b := 10) rfl (by decide +kernel) c_18
                have i_18 : ((f_cd k_a.toNatClampNeg) >>> (12 &&& 31)).toInt ≥ 11 := by have z := g5_ne (a := ((f_cd k_a.toNatClampNeg) >>> (12 &&& 31)).toInt) (b := 10) (by rfl) (by decide +kernel) c_18; omega
                refine lv_aload_n hx hb dX2_holds_187 rfl (lv_at hl 5 rfl) ?_
                refine va_get (D := G.1) (ci := 2) (v := .ref a_sk) (C := RX2) (T := TX2) (N := 2) hx hb hts inG_X2 hown hK hP 0 rfl rfl 1 (by decide +kernel) (hts _ fl_X2_15) (fun _ h9 => h9) rfl dX2_holds_188 ?_
                refine lv_iload_n hx hb dX2_holds_191 rfl (lv_at hl 2 rfl) ?_
                refine lv_iconst (v := 1) hx hb dX2_holds_192 (by decide +kernel) ?_
                refine W.eq (g2 := F0 m 193 ls [.int 1, .int k_t, .ref a_sk]) rfl ?_
                refine lv_isub hx hb dX2_holds_193 ?_
                have t_19 : (k_t - 1).toInt = k_t.toInt - 1 := g5_isub (a := k_t.toInt) (b := 1) (by rfl) (by decide +kernel) (by omega) (by omega)
                refine va_lald hx hb hK hP 2 1 rfl rfl (i := (k_t - 1)) (vp_in_iff.mpr ⟨by omega, by omega⟩) dX2_holds_194 ?_
                refine lv_lconst (v := 0) hx hb dX2_holds_195 (by decide +kernel) ?_
                refine W.lcmp hx hb dX2_holds_196 ?_
                refine lv_if_eq (tgt := 204) hx hb dX2_holds_197 (by decide +kernel) (fun c_20 => ?_) (fun c_20 => ?_)
                ·
                  have i_20 : (lg_cmp (k_k (k_t - 1).toNatClampNeg) 0).toInt = 0 := g5_eq (a := (lg_cmp (k_k (k_t - 1).toNatClampNeg) 0).toInt) (b := 0) rfl (by decide +kernel) c_20
                  refine lv_iconst (v := 0) hx hb dX2_holds_204 (by decide +kernel) ?_
                  refine lv_iload hx hb dX2_holds_205 (lv_at hl 1 rfl) ?_
                  refine lv_bipush (v := 11) hx hb dX2_holds_207 (by decide +kernel) ?_
                  refine lv_icmp_ne (tgt := 216) hx hb dX2_holds_209 (by decide +kernel) (fun c_21 => ?_) (fun c_21 => ?_)
                  ·
                    have n_21 : gNe (((f_cd k_a.toNatClampNeg) >>> (12 &&& 31)).toInt) (11) := g5_ne (a := ((f_cd k_a.toNatClampNeg) >>> (12 &&& 31)).toInt) (b := 11) rfl (by decide +kernel) c_21
                    have i_21 : ((f_cd k_a.toNatClampNeg) >>> (12 &&& 31)).toInt ≥ 12 := by have z := g5_ne (a := ((f_cd k_a.toNatClampNeg) >>> (12 &&& 31)).toInt) (b := 11) (by rfl) (by decide +kernel) c_21; omega
                    refine lv_iconst (v := 0) hx hb dX2_holds_216 (by decide +kernel) ?_
                    refine lv_icmp_ne (tgt := 234) hx hb dX2_holds_217 (by decide +kernel) (fun c_22 => ?_) (fun c_22 => ?_)
                    ·
                      exact absurd c_22 (by decide +kernel)
                    ·
                      refine lv_iload hx hb dX2_holds_220 (lv_at hl 3 rfl) ?_
                      refine lv_iload hx hb dX2_holds_222 (lv_at hl 0 rfl) ?_
                      refine lv_iconst (v := 1) hx hb dX2_holds_224 (by decide +kernel) ?_
                      refine lv_isub hx hb dX2_holds_225 ?_
                      have t_23 : (((f_cd k_a.toNatClampNeg) &&& 4095) - 1).toInt = ((f_cd k_a.toNatClampNeg) &&& 4095).toInt - 1 := g5_isub (a := ((f_cd k_a.toNatClampNeg) &&& 4095).toInt) (b := 1) (by rfl) (by decide +kernel) (by omega) (by omega)
                      refine W.eq (g2 := F0 m 226 ls [.int (((f_cd k_a.toNatClampNeg) &&& 4095) - 1), .int k_a]) rfl ?_
                      refine va_mmax hx hb (hml.trans hl.1.symm) hown (hts _ ml_X2_51) (hts _ st_Math_maxI) (hts _ ini_Math) (hts _ cd_Math_maxI) (Nat.le_of_ble_eq_true rfl) (by decide +kernel) (Nat.le_of_ble_eq_true rfl) (Nat.le_of_ble_eq_true rfl) dX2_holds_226 ?_
                      have hm_24 := g_maxI k_a (((f_cd k_a.toNatClampNeg) &&& 4095) - 1)
                      refine lv_istore (lv' := [(5, .int (if k_a < (((f_cd k_a.toNatClampNeg) &&& 4095) - 1) then (((f_cd k_a.toNatClampNeg) &&& 4095) - 1) else k_a)), (7, .int ((f_cd k_a.toNatClampNeg) &&& 4095)), (6, .int ((f_cd k_a.toNatClampNeg) >>> (12 &&& 31))), (3, .int k_t), (4, .int (f_sr (p_c + 1).toNatClampNeg)), (0, .ref a_j), (1, .ref a_lo), (2, .int p_c)]) hx hb dX2_holds_229 hl (by decide +kernel) rfl ?_
                      clear hl
                      intro ls hl
                      refine lv_goto (tgt := 237) hx hb dX2_holds_231 (by decide +kernel) ?_
                      refine lv_iinc (v := ((if k_a < (((f_cd k_a.toNatClampNeg) &&& 4095) - 1) then (((f_cd k_a.toNatClampNeg) &&& 4095) - 1) else k_a) + 1)) (lv' := [(5, .int ((if k_a < (((f_cd k_a.toNatClampNeg) &&& 4095) - 1) then (((f_cd k_a.toNatClampNeg) &&& 4095) - 1) else k_a) + 1)), (7, .int ((f_cd k_a.toNatClampNeg) &&& 4095)), (6, .int ((f_cd k_a.toNatClampNeg) >>> (12 &&& 31))), (3, .int k_t), (4, .int (f_sr (p_c + 1).toNatClampNeg)), (0, .ref a_j), (1, .ref a_lo), (2, .int p_c)]) hx hb dX2_holds_237 hl (k := 0) rfl rfl (by decide +kernel) rfl ?_
                      clear hl
                      intro ls hl
                      have t_25 : ((if k_a < (((f_cd k_a.toNatClampNeg) &&& 4095) - 1) then (((f_cd k_a.toNatClampNeg) &&& 4095) - 1) else k_a) + 1).toInt = (if k_a < (((f_cd k_a.toNatClampNeg) &&& 4095) - 1) then (((f_cd k_a.toNatClampNeg) &&& 4095) - 1) else k_a).toInt + 1 := g5_iadd (a := (if k_a < (((f_cd k_a.toNatClampNeg) &&& 4095) - 1) then (((f_cd k_a.toNatClampNeg) &&& 4095) - 1) else k_a).toInt) (b := 1) rfl (by decide +kernel) (by omega) (by omega)
                      refine lv_goto (tgt := 20) hx hb dX2_holds_240 (by decide +kernel) ?_
                      exact ih_20_6 (k_t, ((if k_a < (((f_cd k_a.toNatClampNeg) &&& 4095) - 1) then (((f_cd k_a.toNatClampNeg) &&& 4095) - 1) else k_a) + 1), k_k) ls H locs (show Int.toNat (4096 - ((if k_a < (((f_cd k_a.toNatClampNeg) &&& 4095) - 1) then (((f_cd k_a.toNatClampNeg) &&& 4095) - 1) else k_a) + 1).toInt) < Int.toNat (4096 - k_a.toInt) from g_up (show k_a.toInt < ((if k_a < (((f_cd k_a.toNatClampNeg) &&& 4095) - 1) then (((f_cd k_a.toNatClampNeg) &&& 4095) - 1) else k_a) + 1).toInt by omega) (show k_a.toInt < 4096 by omega)) ⟨lv_sub hl [3, 0, 4, 5, 6, 7] rfl, hP, hD, hS, i_4, ⟨by omega, by omega⟩⟩
                  ·
                    have i_21 : ((f_cd k_a.toNatClampNeg) >>> (12 &&& 31)).toInt = 11 := g5_neN (a := ((f_cd k_a.toNatClampNeg) >>> (12 &&& 31)).toInt) (b := 11) rfl (by decide +kernel) c_21
                    refine lv_iconst (v := 1) hx hb dX2_holds_212 (by decide +kernel) ?_
                    refine lv_goto (tgt := 217) hx hb dX2_holds_213 (by decide +kernel) ?_
                    refine lv_icmp_ne (tgt := 234) hx hb dX2_holds_217 (by decide +kernel) (fun c_26 => ?_) (fun c_26 => ?_)
                    ·
                      obtain ⟨y27, hy_27, t_27⟩ := g_incN k_t (-1) (by decide +kernel) (by omega) (by omega)
                      have t_27 : y27.toInt = k_t.toInt + (-1) := t_27
                      refine lv_iinc (v := y27) (lv' := [(3, .int y27), (7, .int ((f_cd k_a.toNatClampNeg) &&& 4095)), (6, .int ((f_cd k_a.toNatClampNeg) >>> (12 &&& 31))), (5, .int k_a), (4, .int (f_sr (p_c + 1).toNatClampNeg)), (0, .ref a_j), (1, .ref a_lo), (2, .int p_c)]) hx hb dX2_holds_234 hl (k := 2) rfl hy_27 (by decide +kernel) rfl ?_
                      clear hl
                      intro ls hl
                      refine lv_iinc (v := (k_a + 1)) (lv' := [(5, .int (k_a + 1)), (3, .int y27), (7, .int ((f_cd k_a.toNatClampNeg) &&& 4095)), (6, .int ((f_cd k_a.toNatClampNeg) >>> (12 &&& 31))), (4, .int (f_sr (p_c + 1).toNatClampNeg)), (0, .ref a_j), (1, .ref a_lo), (2, .int p_c)]) hx hb dX2_holds_237 hl (k := 3) rfl rfl (by decide +kernel) rfl ?_
                      clear hl
                      intro ls hl
                      have t_28 : (k_a + 1).toInt = k_a.toInt + 1 := g5_iadd (a := k_a.toInt) (b := 1) rfl (by decide +kernel) (by omega) (by omega)
                      refine lv_goto (tgt := 20) hx hb dX2_holds_240 (by decide +kernel) ?_
                      exact ih_20_6 (y27, (k_a + 1), k_k) ls H locs (show Int.toNat (4096 - (k_a + 1).toInt) < Int.toNat (4096 - k_a.toInt) from g_up (show k_a.toInt < (k_a + 1).toInt by omega) (show k_a.toInt < 4096 by omega)) ⟨lv_sub hl [1, 0, 4, 5, 6, 7] rfl, hP, hD, hS, ⟨by omega, by omega⟩, ⟨by omega, by omega⟩⟩
                    ·
                      exact absurd c_26 (by decide +kernel)
                ·
                  have n_20 : gNe ((lg_cmp (k_k (k_t - 1).toNatClampNeg) 0).toInt) (0) := g5_eqN (a := (lg_cmp (k_k (k_t - 1).toNatClampNeg) 0).toInt) (b := 0) rfl (by decide +kernel) c_20
                  refine lv_iconst (v := 1) hx hb dX2_holds_200 (by decide +kernel) ?_
                  refine lv_goto (tgt := 205) hx hb dX2_holds_201 (by decide +kernel) ?_
                  refine lv_iload hx hb dX2_holds_205 (lv_at hl 1 rfl) ?_
                  refine lv_bipush (v := 11) hx hb dX2_holds_207 (by decide +kernel) ?_
                  refine W.eq (g2 := F0 m 209 ls [.int 11, .int ((f_cd k_a.toNatClampNeg) >>> (12 &&& 31)), .int 1]) rfl ?_
                  refine lv_icmp_ne (tgt := 216) hx hb dX2_holds_209 (by decide +kernel) (fun c_29 => ?_) (fun c_29 => ?_)
                  ·
                    have n_29 : gNe (((f_cd k_a.toNatClampNeg) >>> (12 &&& 31)).toInt) (11) := g5_ne (a := ((f_cd k_a.toNatClampNeg) >>> (12 &&& 31)).toInt) (b := 11) rfl (by decide +kernel) c_29
                    have i_29 : ((f_cd k_a.toNatClampNeg) >>> (12 &&& 31)).toInt ≥ 12 := by have z := g5_ne (a := ((f_cd k_a.toNatClampNeg) >>> (12 &&& 31)).toInt) (b := 11) (by rfl) (by decide +kernel) c_29; omega
                    refine lv_iconst (v := 0) hx hb dX2_holds_216 (by decide +kernel) ?_
                    refine lv_icmp_ne (tgt := 234) hx hb dX2_holds_217 (by decide +kernel) (fun c_30 => ?_) (fun c_30 => ?_)
                    ·
                      obtain ⟨y31, hy_31, t_31⟩ := g_incN k_t (-1) (by decide +kernel) (by omega) (by omega)
                      have t_31 : y31.toInt = k_t.toInt + (-1) := t_31
                      refine lv_iinc (v := y31) (lv' := [(3, .int y31), (7, .int ((f_cd k_a.toNatClampNeg) &&& 4095)), (6, .int ((f_cd k_a.toNatClampNeg) >>> (12 &&& 31))), (5, .int k_a), (4, .int (f_sr (p_c + 1).toNatClampNeg)), (0, .ref a_j), (1, .ref a_lo), (2, .int p_c)]) hx hb dX2_holds_234 hl (k := 2) rfl hy_31 (by decide +kernel) rfl ?_
                      clear hl
                      intro ls hl
                      refine lv_iinc (v := (k_a + 1)) (lv' := [(5, .int (k_a + 1)), (3, .int y31), (7, .int ((f_cd k_a.toNatClampNeg) &&& 4095)), (6, .int ((f_cd k_a.toNatClampNeg) >>> (12 &&& 31))), (4, .int (f_sr (p_c + 1).toNatClampNeg)), (0, .ref a_j), (1, .ref a_lo), (2, .int p_c)]) hx hb dX2_holds_237 hl (k := 3) rfl rfl (by decide +kernel) rfl ?_
                      clear hl
                      intro ls hl
                      have t_32 : (k_a + 1).toInt = k_a.toInt + 1 := g5_iadd (a := k_a.toInt) (b := 1) rfl (by decide +kernel) (by omega) (by omega)
                      refine lv_goto (tgt := 20) hx hb dX2_holds_240 (by decide +kernel) ?_
                      exact ih_20_6 (y31, (k_a + 1), k_k) ls H locs (show Int.toNat (4096 - (k_a + 1).toInt) < Int.toNat (4096 - k_a.toInt) from g_up (show k_a.toInt < (k_a + 1).toInt by omega) (show k_a.toInt < 4096 by omega)) ⟨lv_sub hl [1, 0, 4, 5, 6, 7] rfl, hP, hD, hS, ⟨by omega, by omega⟩, ⟨by omega, by omega⟩⟩
                    ·
                      exact absurd c_30 (by decide +kernel)
                  ·
                    have i_29 : ((f_cd k_a.toNatClampNeg) >>> (12 &&& 31)).toInt = 11 := g5_neN (a := ((f_cd k_a.toNatClampNeg) >>> (12 &&& 31)).toInt) (b := 11) rfl (by decide +kernel) c_29
                    refine lv_iconst (v := 1) hx hb dX2_holds_212 (by decide +kernel) ?_
                    refine lv_goto (tgt := 217) hx hb dX2_holds_213 (by decide +kernel) ?_
                    refine lv_icmp_ne (tgt := 234) hx hb dX2_holds_217 (by decide +kernel) (fun c_33 => ?_) (fun c_33 => ?_)
                    ·
                      exact absurd c_33 (by decide +kernel)
                    ·
                      refine lv_iload hx hb dX2_holds_220 (lv_at hl 3 rfl) ?_
                      refine lv_iload hx hb dX2_holds_222 (lv_at hl 0 rfl) ?_
                      refine lv_iconst (v := 1) hx hb dX2_holds_224 (by decide +kernel) ?_
                      refine lv_isub hx hb dX2_holds_225 ?_
                      have t_34 : (((f_cd k_a.toNatClampNeg) &&& 4095) - 1).toInt = ((f_cd k_a.toNatClampNeg) &&& 4095).toInt - 1 := g5_isub (a := ((f_cd k_a.toNatClampNeg) &&& 4095).toInt) (b := 1) (by rfl) (by decide +kernel) (by omega) (by omega)
                      refine W.eq (g2 := F0 m 226 ls [.int (((f_cd k_a.toNatClampNeg) &&& 4095) - 1), .int k_a]) rfl ?_
                      refine va_mmax hx hb (hml.trans hl.1.symm) hown (hts _ ml_X2_51) (hts _ st_Math_maxI) (hts _ ini_Math) (hts _ cd_Math_maxI) (Nat.le_of_ble_eq_true rfl) (by decide +kernel) (Nat.le_of_ble_eq_true rfl) (Nat.le_of_ble_eq_true rfl) dX2_holds_226 ?_
                      have hm_35 := g_maxI k_a (((f_cd k_a.toNatClampNeg) &&& 4095) - 1)
                      refine lv_istore (lv' := [(5, .int (if k_a < (((f_cd k_a.toNatClampNeg) &&& 4095) - 1) then (((f_cd k_a.toNatClampNeg) &&& 4095) - 1) else k_a)), (7, .int ((f_cd k_a.toNatClampNeg) &&& 4095)), (6, .int ((f_cd k_a.toNatClampNeg) >>> (12 &&& 31))), (3, .int k_t), (4, .int (f_sr (p_c + 1).toNatClampNeg)), (0, .ref a_j), (1, .ref a_lo), (2, .int p_c)]) hx hb dX2_holds_229 hl (by decide +kernel) rfl ?_
                      clear hl
                      intro ls hl
                      refine lv_goto (tgt := 237) hx hb dX2_holds_231 (by decide +kernel) ?_
                      refine lv_iinc (v := ((if k_a < (((f_cd k_a.toNatClampNeg) &&& 4095) - 1) then (((f_cd k_a.toNatClampNeg) &&& 4095) - 1) else k_a) + 1)) (lv' := [(5, .int ((if k_a < (((f_cd k_a.toNatClampNeg) &&& 4095) - 1) then (((f_cd k_a.toNatClampNeg) &&& 4095) - 1) else k_a) + 1)), (7, .int ((f_cd k_a.toNatClampNeg) &&& 4095)), (6, .int ((f_cd k_a.toNatClampNeg) >>> (12 &&& 31))), (3, .int k_t), (4, .int (f_sr (p_c + 1).toNatClampNeg)), (0, .ref a_j), (1, .ref a_lo), (2, .int p_c)]) hx hb dX2_holds_237 hl (k := 0) rfl rfl (by decide +kernel) rfl ?_
                      clear hl
                      intro ls hl
                      have t_36 : ((if k_a < (((f_cd k_a.toNatClampNeg) &&& 4095) - 1) then (((f_cd k_a.toNatClampNeg) &&& 4095) - 1) else k_a) + 1).toInt = (if k_a < (((f_cd k_a.toNatClampNeg) &&& 4095) - 1) then (((f_cd k_a.toNatClampNeg) &&& 4095) - 1) else k_a).toInt + 1 := g5_iadd (a := (if k_a < (((f_cd k_a.toNatClampNeg) &&& 4095) - 1) then (((f_cd k_a.toNatClampNeg) &&& 4095) - 1) else k_a).toInt) (b := 1) rfl (by decide +kernel) (by omega) (by omega)
                      refine lv_goto (tgt := 20) hx hb dX2_holds_240 (by decide +kernel) ?_
                      exact ih_20_6 (k_t, ((if k_a < (((f_cd k_a.toNatClampNeg) &&& 4095) - 1) then (((f_cd k_a.toNatClampNeg) &&& 4095) - 1) else k_a) + 1), k_k) ls H locs (show Int.toNat (4096 - ((if k_a < (((f_cd k_a.toNatClampNeg) &&& 4095) - 1) then (((f_cd k_a.toNatClampNeg) &&& 4095) - 1) else k_a) + 1).toInt) < Int.toNat (4096 - k_a.toInt) from g_up (show k_a.toInt < ((if k_a < (((f_cd k_a.toNatClampNeg) &&& 4095) - 1) then (((f_cd k_a.toNatClampNeg) &&& 4095) - 1) else k_a) + 1).toInt by omega) (show k_a.toInt < 4096 by omega)) ⟨lv_sub hl [3, 0, 4, 5, 6, 7] rfl, hP, hD, hS, i_4, ⟨by omega, by omega⟩⟩
              ·
                have i_18 : ((f_cd k_a.toNatClampNeg) >>> (12 &&& 31)).toInt = 10 := g5_neN (a := ((f_cd k_a.toNatClampNeg) >>> (12 &&& 31)).toInt) (b := 10) rfl (by decide +kernel) c_18
                obtain ⟨y37, hy_37, t_37⟩ := g_incN k_t (-1) (by decide +kernel) (by omega) (by omega)
                have t_37 : y37.toInt = k_t.toInt + (-1) := t_37
                refine lv_iinc (v := y37) (lv' := [(3, .int y37), (7, .int ((f_cd k_a.toNatClampNeg) &&& 4095)), (6, .int ((f_cd k_a.toNatClampNeg) >>> (12 &&& 31))), (5, .int k_a), (4, .int (f_sr (p_c + 1).toNatClampNeg)), (0, .ref a_j), (1, .ref a_lo), (2, .int p_c)]) hx hb dX2_holds_171 hl (k := 2) rfl hy_37 (by decide +kernel) rfl ?_
                clear hl
                intro ls hl
                refine lv_aload_n hx hb dX2_holds_174 rfl (lv_at hl 5 rfl) ?_
                refine va_get (D := G.1) (ci := 2) (v := .ref a_sk) (C := RX2) (T := TX2) (N := 2) hx hb hts inG_X2 hown hK hP 0 rfl rfl 1 (by decide +kernel) (hts _ fl_X2_15) (fun _ h9 => h9) rfl dX2_holds_175 ?_
                refine lv_iload_n hx hb dX2_holds_178 rfl (lv_at hl 0 rfl) ?_
                refine W.eq (g2 := F0 m 179 ls [.int y37, .ref a_sk]) rfl ?_
                refine va_lald hx hb hK hP 2 1 rfl rfl (i := y37) (vp_in_iff.mpr ⟨by omega, by omega⟩) dX2_holds_179 ?_
                refine lv_lconst (v := 0) hx hb dX2_holds_180 (by decide +kernel) ?_
                refine W.lcmp hx hb dX2_holds_181 ?_
                refine lv_if_ne (tgt := 237) hx hb dX2_holds_182 (by decide +kernel) (fun c_38 => ?_) (fun c_38 => ?_)
                ·
                  have n_38 : gNe ((lg_cmp (k_k y37.toNatClampNeg) 0).toInt) (0) := g5_ne (a := (lg_cmp (k_k y37.toNatClampNeg) 0).toInt) (b := 0) rfl (by decide +kernel) c_38
                  refine lv_iinc (v := (k_a + 1)) (lv' := [(5, .int (k_a + 1)), (3, .int y37), (7, .int ((f_cd k_a.toNatClampNeg) &&& 4095)), (6, .int ((f_cd k_a.toNatClampNeg) >>> (12 &&& 31))), (4, .int (f_sr (p_c + 1).toNatClampNeg)), (0, .ref a_j), (1, .ref a_lo), (2, .int p_c)]) hx hb dX2_holds_237 hl (k := 3) rfl rfl (by decide +kernel) rfl ?_
                  clear hl
                  intro ls hl
                  have t_39 : (k_a + 1).toInt = k_a.toInt + 1 := g5_iadd (a := k_a.toInt) (b := 1) rfl (by decide +kernel) (by omega) (by omega)
                  refine lv_goto (tgt := 20) hx hb dX2_holds_240 (by decide +kernel) ?_
                  exact ih_20_6 (y37, (k_a + 1), k_k) ls H locs (show Int.toNat (4096 - (k_a + 1).toInt) < Int.toNat (4096 - k_a.toInt) from g_up (show k_a.toInt < (k_a + 1).toInt by omega) (show k_a.toInt < 4096 by omega)) ⟨lv_sub hl [1, 0, 4, 5, 6, 7] rfl, hP, hD, hS, ⟨by omega, by omega⟩, ⟨by omega, by omega⟩⟩
                ·
                  have i_38 : (lg_cmp (k_k y37.toNatClampNeg) 0).toInt = 0 := g5_neN (a := (lg_cmp (k_k y37.toNatClampNeg) 0).toInt) (b := 0) rfl (by decide +kernel) c_38
                  refine lv_iconst (v := 0) hx hb dX2_holds_185 (by decide +kernel) ?_
                  exact W.zret (v := 0) hx hb hr rfl (fun t ht hW => ⟨⟨0, [(a_j, (oc2 a_as a_sk)), (a_as, (arI G 8 f_as)), (a_sk, (arJ G 50 k_k)), (a_lo, (oc3 e_cl a_hd a_sr a_cd)), (a_sr, (arI G n_sr f_sr)), (a_cd, (arI G n_cd f_cd))], rfl, ⟨0, k_k, ⟨by have zc_o_r : (0 : Int32).toInt = 0 := (by decide +kernel); omega, by have zc_o_r : (0 : Int32).toInt = 0 := (by decide +kernel); omega⟩, rfl, rfl⟩, by rw [ht]; exact hP.sub [0, 1, 2, 3, 4, 5] rfl, hD.sub [0, 1, 2, 3, 4, 5] (by decide +kernel) rfl⟩, hS.F ht⟩) hS.2.2 dX2_holds_186
            ·
              have i_17 : ((f_cd k_a.toNatClampNeg) >>> (12 &&& 31)).toInt = 9 := g5_neN (a := ((f_cd k_a.toNatClampNeg) >>> (12 &&& 31)).toInt) (b := 9) rfl (by decide +kernel) c_17
              refine lv_aload_n hx hb dX2_holds_143 rfl (lv_at hl 5 rfl) ?_
              refine va_get (D := G.1) (ci := 2) (v := .ref a_sk) (C := RX2) (T := TX2) (N := 2) hx hb hts inG_X2 hown hK hP 0 rfl rfl 1 (by decide +kernel) (hts _ fl_X2_15) (fun _ h9 => h9) rfl dX2_holds_144 ?_
              refine lv_iload_n hx hb dX2_holds_147 rfl (lv_at hl 2 rfl) ?_
              refine lv_iconst (v := 1) hx hb dX2_holds_148 (by decide +kernel) ?_
              refine W.eq (g2 := F0 m 149 ls [.int 1, .int k_t, .ref a_sk]) rfl ?_
              refine lv_isub hx hb dX2_holds_149 ?_
              have t_40 : (k_t - 1).toInt = k_t.toInt - 1 := g5_isub (a := k_t.toInt) (b := 1) (by rfl) (by decide +kernel) (by omega) (by omega)
              refine lv_lconst (v := 1) hx hb dX2_holds_150 (by decide +kernel) ?_
              refine lv_aload_n hx hb dX2_holds_151 rfl (lv_at hl 5 rfl) ?_
              refine va_get (D := G.1) (ci := 2) (v := .ref a_sk) (C := RX2) (T := TX2) (N := 2) hx hb hts inG_X2 hown hK hP 0 rfl rfl 1 (by decide +kernel) (hts _ fl_X2_15) (fun _ h9 => h9) rfl dX2_holds_152 ?_
              refine lv_iload_n hx hb dX2_holds_155 rfl (lv_at hl 2 rfl) ?_
              refine W.eq (g2 := F0 m 156 ls [.int k_t, .ref a_sk, .long 1, .int (k_t - 1), .ref a_sk]) rfl ?_
              refine lv_iconst (v := 1) hx hb dX2_holds_156 (by decide +kernel) ?_
              refine lv_isub hx hb dX2_holds_157 ?_
              have t_41 : (k_t - 1).toInt = k_t.toInt - 1 := g5_isub (a := k_t.toInt) (b := 1) (by rfl) (by decide +kernel) (by omega) (by omega)
              refine va_lald hx hb hK hP 2 1 rfl rfl (i := (k_t - 1)) (vp_in_iff.mpr ⟨by omega, by omega⟩) dX2_holds_158 ?_
              refine lv_lsub hx hb dX2_holds_159 ?_
              refine va_last hx hb hK hP hD hS 2 1 rfl rfl (i := (k_t - 1)) (x := (1 - (k_k (k_t - 1).toNatClampNeg))) (vp_in_iff.mpr ⟨by omega, by omega⟩) dX2_holds_160 ?_
              clear hP hD hS
              intro H locs hP hD hS
              refine g5_rs [(a_j, (oc2 a_as a_sk)), (a_as, (arI G 8 f_as)), (a_sk, (arJ G 50 (vp_updL k_k (k_t - 1).toNatClampNeg (1 - (k_k (k_t - 1).toNatClampNeg))))), (a_lo, (oc3 e_cl a_hd a_sr a_cd)), (a_sr, (arI G n_sr f_sr)), (a_cd, (arI G n_cd f_cd))] hP hD ?_
              clear hP hD
              intro hP hD
              refine W.eq (g2 := F0 m 161 ls []) rfl ?_
              refine lv_goto (tgt := 237) hx hb dX2_holds_161 (by decide +kernel) ?_
              refine lv_iinc (v := (k_a + 1)) (lv' := [(5, .int (k_a + 1)), (7, .int ((f_cd k_a.toNatClampNeg) &&& 4095)), (6, .int ((f_cd k_a.toNatClampNeg) >>> (12 &&& 31))), (3, .int k_t), (4, .int (f_sr (p_c + 1).toNatClampNeg)), (0, .ref a_j), (1, .ref a_lo), (2, .int p_c)]) hx hb dX2_holds_237 hl (k := 3) rfl rfl (by decide +kernel) rfl ?_
              clear hl
              intro ls hl
              have t_42 : (k_a + 1).toInt = k_a.toInt + 1 := g5_iadd (a := k_a.toInt) (b := 1) rfl (by decide +kernel) (by omega) (by omega)
              refine lv_goto (tgt := 20) hx hb dX2_holds_240 (by decide +kernel) ?_
              exact ih_20_6 (k_t, (k_a + 1), (vp_updL k_k (k_t - 1).toNatClampNeg (1 - (k_k (k_t - 1).toNatClampNeg)))) ls H locs (show Int.toNat (4096 - (k_a + 1).toInt) < Int.toNat (4096 - k_a.toInt) from g_up (show k_a.toInt < (k_a + 1).toInt by omega) (show k_a.toInt < 4096 by omega)) ⟨lv_sub hl [3, 0, 4, 5, 6, 7] rfl, hP, hD, hS, i_4, ⟨by omega, by omega⟩⟩
          ·
            have i_16 : k_t.toInt < 1 := g5_geN (a := k_t.toInt) (b := 1) rfl (by decide +kernel) c_16
            refine lv_iconst (v := 0) hx hb dX2_holds_134 (by decide +kernel) ?_
            exact W.zret (v := 0) hx hb hr rfl (fun t ht hW => ⟨⟨0, [(a_j, (oc2 a_as a_sk)), (a_as, (arI G 8 f_as)), (a_sk, (arJ G 50 k_k)), (a_lo, (oc3 e_cl a_hd a_sr a_cd)), (a_sr, (arI G n_sr f_sr)), (a_cd, (arI G n_cd f_cd))], rfl, ⟨0, k_k, ⟨by have zc_o_r : (0 : Int32).toInt = 0 := (by decide +kernel); omega, by have zc_o_r : (0 : Int32).toInt = 0 := (by decide +kernel); omega⟩, rfl, rfl⟩, by rw [ht]; exact hP.sub [0, 1, 2, 3, 4, 5] rfl, hD.sub [0, 1, 2, 3, 4, 5] (by decide +kernel) rfl⟩, hS.F ht⟩) hS.2.2 dX2_holds_135
        ·
          have i_15 : ((f_cd k_a.toNatClampNeg) >>> (12 &&& 31)).toInt ≤ 8 := g5_gtN (a := ((f_cd k_a.toNatClampNeg) >>> (12 &&& 31)).toInt) (b := 8) rfl (by decide +kernel) c_15
          obtain ⟨y43, hy_43, t_43⟩ := g_incN k_t (-1) (by decide +kernel) (by omega) (by omega)
          have t_43 : y43.toInt = k_t.toInt + (-1) := t_43
          refine lv_iinc (v := y43) (lv' := [(3, .int y43), (7, .int ((f_cd k_a.toNatClampNeg) &&& 4095)), (6, .int ((f_cd k_a.toNatClampNeg) >>> (12 &&& 31))), (5, .int k_a), (4, .int (f_sr (p_c + 1).toNatClampNeg)), (0, .ref a_j), (1, .ref a_lo), (2, .int p_c)]) hx hb dX2_holds_112 hl (k := 2) rfl hy_43 (by decide +kernel) rfl ?_
          clear hl
          intro ls hl
          refine lv_aload_n hx hb dX2_holds_115 rfl (lv_at hl 5 rfl) ?_
          refine lv_iload hx hb dX2_holds_116 (lv_at hl 2 rfl) ?_
          refine lv_iload_n hx hb dX2_holds_118 rfl (lv_at hl 0 rfl) ?_
          refine W.eq (g2 := F0 m 119 ls [.int y43, .int ((f_cd k_a.toNatClampNeg) >>> (12 &&& 31)), .ref a_j]) rfl ?_
          refine lv_iconst (v := 1) hx hb dX2_holds_119 (by decide +kernel) ?_
          refine lv_isub hx hb dX2_holds_120 ?_
          have t_44 : (y43 - 1).toInt = y43.toInt - 1 := g5_isub (a := y43.toInt) (b := 1) (by rfl) (by decide +kernel) (by omega) (by omega)
          obtain ⟨hPc, hDc, hFc⟩ := g5_sub3 (wc := [(a_j, (oc2 a_as a_sk)), (a_sk, (arJ G 50 k_k))]) hP hD hS hA [0, 2] (by decide +kernel) rfl
          refine va_calli (va_runV (As := [.int ((f_cd k_a.toNatClampNeg) >>> (12 &&& 31)), .int (y43 - 1)]) (rest := []) ⟨hx, hb, hml, hown, hts⟩ (j_combine l G a_j a_sk a_as H.size ((f_cd k_a.toNatClampNeg) >>> (12 &&& 31)) (y43 - 1) k_k ⟨by omega, by omega⟩) (cwV 2 hts gV_X2_47 rfl rfl rfl hv_X2_combine ⟨Nat.le_of_ble_eq_true rfl, Nat.le_of_ble_eq_true rfl⟩) (g5_preV hPc hK hDc hN hT hS hFc (ci := 2) (q0 := 0) rfl rfl) rfl rfl hl.1 rfl (lv_room (Nat.le_of_ble_eq_true rfl)) dX2_holds_121 ⟨Nat.le_of_ble_eq_true rfl, Nat.le_of_ble_eq_true rfl⟩) hS (fun q _ h => hFc q h) hFc (fun r u t H locs ht hvm hw hB hz1 hk1 hS => ?_)
          obtain ⟨hP1, hD1⟩ := hB
          have hP1 := g5_ht ht hP1
          obtain ⟨z47, z48, (i_45 : 0 ≤ z47.toInt ∧ z47.toInt ≤ 1), (i_46 : z47.toInt = 0 ∨ 0 ≤ (y43 - 1).toInt), y49, rfl⟩ := hw
          have hJ9 := va_join (wr := [(a_as, (arI G 8 f_as)), (a_lo, (oc3 e_cl a_hd a_sr a_cd)), (a_sr, (arI G n_sr f_sr)), (a_cd, (arI G n_cd f_cd))]) hP hD [0, 2] [1, 3, 4, 5] rfl rfl (by decide +kernel) (by decide +kernel) hk1 hFc hP1 hD1
          clear hP hD hPc hDc hFc ht hvm hz1 hk1 hP1 hD1
          obtain ⟨hP, hD⟩ := hJ9
          refine g5_rs [(a_as, (arI G 8 f_as)), (a_lo, (oc3 e_cl a_hd a_sr a_cd)), (a_sr, (arI G n_sr f_sr)), (a_cd, (arI G n_cd f_cd)), (a_j, (oc2 a_as a_sk)), (a_sk, (arJ G 50 z48))] hP hD ?_
          clear hP hD
          intro hP hD
          refine g5_ti (v := z47) y49 ?_
          refine lv_if_ne (tgt := 237) hx hb dX2_holds_124 (by decide +kernel) (fun c_50 => ?_) (fun c_50 => ?_)
          ·
            have n_50 : gNe (z47.toInt) (0) := g5_ne (a := z47.toInt) (b := 0) rfl (by decide +kernel) c_50
            have i_50 : z47.toInt ≥ 1 := by have z := g5_ne (a := z47.toInt) (b := 0) (by rfl) (by decide +kernel) c_50; omega
            refine lv_iinc (v := (k_a + 1)) (lv' := [(5, .int (k_a + 1)), (3, .int y43), (7, .int ((f_cd k_a.toNatClampNeg) &&& 4095)), (6, .int ((f_cd k_a.toNatClampNeg) >>> (12 &&& 31))), (4, .int (f_sr (p_c + 1).toNatClampNeg)), (0, .ref a_j), (1, .ref a_lo), (2, .int p_c)]) hx hb dX2_holds_237 hl (k := 3) rfl rfl (by decide +kernel) rfl ?_
            clear hl
            intro ls hl
            have t_51 : (k_a + 1).toInt = k_a.toInt + 1 := g5_iadd (a := k_a.toInt) (b := 1) rfl (by decide +kernel) (by omega) (by omega)
            refine lv_goto (tgt := 20) hx hb dX2_holds_240 (by decide +kernel) ?_
            exact ih_20_6 (y43, (k_a + 1), z48) ls H locs (show Int.toNat (4096 - (k_a + 1).toInt) < Int.toNat (4096 - k_a.toInt) from g_up (show k_a.toInt < (k_a + 1).toInt by omega) (show k_a.toInt < 4096 by omega)) ⟨lv_sub hl [1, 0, 4, 5, 6, 7] rfl, hP.sub [4, 0, 5, 1, 2, 3] rfl, hD.sub [4, 0, 5, 1, 2, 3] (by decide +kernel) rfl, hS, ⟨by omega, by omega⟩, ⟨by omega, by omega⟩⟩
          ·
            have i_50 : z47.toInt = 0 := g5_neN (a := z47.toInt) (b := 0) rfl (by decide +kernel) c_50
            refine lv_iconst (v := 0) hx hb dX2_holds_127 (by decide +kernel) ?_
            exact W.zret (v := 0) hx hb hr rfl (fun t ht hW => ⟨⟨0, [(a_j, (oc2 a_as a_sk)), (a_as, (arI G 8 f_as)), (a_sk, (arJ G 50 z48)), (a_lo, (oc3 e_cl a_hd a_sr a_cd)), (a_sr, (arI G n_sr f_sr)), (a_cd, (arI G n_cd f_cd))], rfl, ⟨0, z48, ⟨by have zc_o_r : (0 : Int32).toInt = 0 := (by decide +kernel); omega, by have zc_o_r : (0 : Int32).toInt = 0 := (by decide +kernel); omega⟩, rfl, rfl⟩, by rw [ht]; exact hP.sub [4, 0, 5, 1, 2, 3] rfl, hD.sub [4, 0, 5, 1, 2, 3] (by decide +kernel) rfl⟩, hS.F ht⟩) hS.2.2 dX2_holds_128
      ·
        have i_14 : ((f_cd k_a.toNatClampNeg) >>> (12 &&& 31)).toInt = 1 := g5_neN (a := ((f_cd k_a.toNatClampNeg) >>> (12 &&& 31)).toInt) (b := 1) rfl (by decide +kernel) c_14
        refine lv_iload_n hx hb dX2_holds_63 rfl (lv_at hl 2 rfl) ?_
        refine lv_aload_n hx hb dX2_holds_64 rfl (lv_at hl 5 rfl) ?_
        refine va_get (D := G.1) (ci := 2) (v := .ref a_sk) (C := RX2) (T := TX2) (N := 2) hx hb hts inG_X2 hown hK hP 0 rfl rfl 1 (by decide +kernel) (hts _ fl_X2_15) (fun _ h9 => h9) rfl dX2_holds_65 ?_
        refine va_alen hx hb hK hP 2 1 rfl rfl (v := 50) (by show Int32.ofNat 50 = 50; decide) dX2_holds_68 ?_
        refine W.eq (g2 := F0 m 69 ls [.int 50, .int k_t]) rfl ?_
        refine lv_icmp_lt (tgt := 74) hx hb dX2_holds_69 (by decide +kernel) (fun c_52 => ?_) (fun c_52 => ?_)
        ·
          have i_52 : k_t.toInt < 50 := g5_lt (a := k_t.toInt) (b := 50) rfl (by decide +kernel) c_52
          refine lv_aload_n hx hb dX2_holds_74 rfl (lv_at hl 5 rfl) ?_
          refine va_get (D := G.1) (ci := 2) (v := .ref a_sk) (C := RX2) (T := TX2) (N := 2) hx hb hts inG_X2 hown hK hP 0 rfl rfl 1 (by decide +kernel) (hts _ fl_X2_15) (fun _ h9 => h9) rfl dX2_holds_75 ?_
          refine lv_iload_n hx hb dX2_holds_78 rfl (lv_at hl 2 rfl) ?_
          refine lv_iload hx hb dX2_holds_79 (lv_at hl 1 rfl) ?_
          refine W.eq (g2 := F0 m 81 ls [.int ((f_cd k_a.toNatClampNeg) >>> (12 &&& 31)), .int k_t, .ref a_sk]) rfl ?_
          refine lv_if_ne (tgt := 90) hx hb dX2_holds_81 (by decide +kernel) (fun c_53 => ?_) (fun c_53 => ?_)
          ·
            have n_53 : gNe (((f_cd k_a.toNatClampNeg) >>> (12 &&& 31)).toInt) (0) := g5_ne (a := ((f_cd k_a.toNatClampNeg) >>> (12 &&& 31)).toInt) (b := 0) rfl (by decide +kernel) c_53
            refine lv_aload_n hx hb dX2_holds_90 rfl (lv_at hl 5 rfl) ?_
            refine va_get (D := G.1) (ci := 2) (v := .ref a_as) (C := RX2) (T := TX2) (N := 2) hx hb hts inG_X2 hown hK hP 0 rfl rfl 0 (by decide +kernel) (hts _ fl_X2_9) (fun _ h9 => h9) rfl dX2_holds_91 ?_
            refine lv_iload hx hb dX2_holds_94 (lv_at hl 0 rfl) ?_
            have hw_54 : ((f_cd k_a.toNatClampNeg) &&& 4095).toInt < 8 := e_hk _ (by have zz := g5_clamp k_a; omega) (by omega)
            refine va_iald hx hb hK hP 1 0 rfl rfl (i := ((f_cd k_a.toNatClampNeg) &&& 4095)) (vp_in_iff.mpr ⟨by omega, by omega⟩) dX2_holds_96 ?_
            refine W.eq (g2 := F0 m 97 ls [.int (f_as ((f_cd k_a.toNatClampNeg) &&& 4095).toNatClampNeg), .int k_t, .ref a_sk]) rfl ?_
            refine lv_i2l (v := (f_as ((f_cd k_a.toNatClampNeg) &&& 4095).toNatClampNeg).toInt64) hx hb dX2_holds_97 rfl ?_
            refine va_last hx hb hK hP hD hS 2 1 rfl rfl (i := k_t) (x := (f_as ((f_cd k_a.toNatClampNeg) &&& 4095).toNatClampNeg).toInt64) (vp_in_iff.mpr ⟨by omega, by omega⟩) dX2_holds_98 ?_
            clear hP hD hS
            intro H locs hP hD hS
            refine g5_rs [(a_j, (oc2 a_as a_sk)), (a_as, (arI G 8 f_as)), (a_sk, (arJ G 50 (vp_updL k_k k_t.toNatClampNeg ((f_as ((f_cd k_a.toNatClampNeg) &&& 4095).toNatClampNeg).toInt64)))), (a_lo, (oc3 e_cl a_hd a_sr a_cd)), (a_sr, (arI G n_sr f_sr)), (a_cd, (arI G n_cd f_cd))] hP hD ?_
            clear hP hD
            intro hP hD
            refine lv_iinc (v := (k_t + 1)) (lv' := [(3, .int (k_t + 1)), (7, .int ((f_cd k_a.toNatClampNeg) &&& 4095)), (6, .int ((f_cd k_a.toNatClampNeg) >>> (12 &&& 31))), (5, .int k_a), (4, .int (f_sr (p_c + 1).toNatClampNeg)), (0, .ref a_j), (1, .ref a_lo), (2, .int p_c)]) hx hb dX2_holds_99 hl (k := 2) rfl rfl (by decide +kernel) rfl ?_
            clear hl
            intro ls hl
            have t_55 : (k_t + 1).toInt = k_t.toInt + 1 := g5_iadd (a := k_t.toInt) (b := 1) rfl (by decide +kernel) (by omega) (by omega)
            refine lv_goto (tgt := 237) hx hb dX2_holds_102 (by decide +kernel) ?_
            refine lv_iinc (v := (k_a + 1)) (lv' := [(5, .int (k_a + 1)), (3, .int (k_t + 1)), (7, .int ((f_cd k_a.toNatClampNeg) &&& 4095)), (6, .int ((f_cd k_a.toNatClampNeg) >>> (12 &&& 31))), (4, .int (f_sr (p_c + 1).toNatClampNeg)), (0, .ref a_j), (1, .ref a_lo), (2, .int p_c)]) hx hb dX2_holds_237 hl (k := 3) rfl rfl (by decide +kernel) rfl ?_
            clear hl
            intro ls hl
            have t_56 : (k_a + 1).toInt = k_a.toInt + 1 := g5_iadd (a := k_a.toInt) (b := 1) rfl (by decide +kernel) (by omega) (by omega)
            refine W.eq (g2 := F0 m 240 ls []) rfl ?_
            refine lv_goto (tgt := 20) hx hb dX2_holds_240 (by decide +kernel) ?_
            exact ih_20_6 ((k_t + 1), (k_a + 1), (vp_updL k_k k_t.toNatClampNeg ((f_as ((f_cd k_a.toNatClampNeg) &&& 4095).toNatClampNeg).toInt64))) ls H locs (show Int.toNat (4096 - (k_a + 1).toInt) < Int.toNat (4096 - k_a.toInt) from g_up (show k_a.toInt < (k_a + 1).toInt by omega) (show k_a.toInt < 4096 by omega)) ⟨lv_sub hl [1, 0, 4, 5, 6, 7] rfl, hP, hD, hS, ⟨by omega, by omega⟩, ⟨by omega, by omega⟩⟩
          ·
            have i_53 : ((f_cd k_a.toNatClampNeg) >>> (12 &&& 31)).toInt = 0 := g5_neN (a := ((f_cd k_a.toNatClampNeg) >>> (12 &&& 31)).toInt) (b := 0) rfl (by decide +kernel) c_53
            omega
        ·
          have i_52 : k_t.toInt ≥ 50 := g5_ltN (a := k_t.toInt) (b := 50) rfl (by decide +kernel) c_52
          refine lv_iconst (v := 0) hx hb dX2_holds_72 (by decide +kernel) ?_
          exact W.zret (v := 0) hx hb hr rfl (fun t ht hW => ⟨⟨0, [(a_j, (oc2 a_as a_sk)), (a_as, (arI G 8 f_as)), (a_sk, (arJ G 50 k_k)), (a_lo, (oc3 e_cl a_hd a_sr a_cd)), (a_sr, (arI G n_sr f_sr)), (a_cd, (arI G n_cd f_cd))], rfl, ⟨0, k_k, ⟨by have zc_o_r : (0 : Int32).toInt = 0 := (by decide +kernel); omega, by have zc_o_r : (0 : Int32).toInt = 0 := (by decide +kernel); omega⟩, rfl, rfl⟩, by rw [ht]; exact hP.sub [0, 1, 2, 3, 4, 5] rfl, hD.sub [0, 1, 2, 3, 4, 5] (by decide +kernel) rfl⟩, hS.F ht⟩) hS.2.2 dX2_holds_73
theorem dgX2_isHeld_0 : ∀ r ∈ ([(0, (.aload_n 1, 1)), (1, (.ifnonnull 5, 3)), (4, (.iconst 0, 1)), (5, (.ireturn, 1)), (6, (.aload_n 1, 1)), (7, (.getfield 19, 3)), (10, (.iconst 1, 1)), (11, (.isub, 1)), (12, (.istore_n 3, 1)), (13, (.iload_n 3, 1)), (14, (.ifCond .lt 30, 3)), (17, (.aload_n 1, 1)), (18, (.getfield 25, 3)), (21, (.iload_n 3, 1)), (22, (.iaload, 1)), (23, (.iload_n 2, 1)), (24, (.if_icmp .ne 14, 3)), (27, (.aload_n 0, 1)), (28, (.aload_n 1, 1)), (29, (.iload_n 3, 1)), (30, (.invokevirtual 28, 3)), (33, (.ifCond .eq 5, 3)), (36, (.iconst 1, 1)), (37, (.ireturn, 1)), (38, (.iinc 3 (-1), 3)), (41, (.goto (-28), 3)), (44, (.iconst 0, 1)), (45, (.ireturn, 1))] : List (Nat × (Instr × Nat))), decode cX2_isHeld r.1 = .ok r.2 := by decide +kernel
theorem dX2_isHeld_0 : decode cX2_isHeld 0 = .ok (.aload_n 1, 1) := dgX2_isHeld_0 (0, (.aload_n 1, 1)) (List.mem_of_getElem? (i := 0) rfl)
theorem dX2_isHeld_1 : decode cX2_isHeld 1 = .ok (.ifnonnull 5, 3) := dgX2_isHeld_0 (1, (.ifnonnull 5, 3)) (List.mem_of_getElem? (i := 1) rfl)
theorem dX2_isHeld_4 : decode cX2_isHeld 4 = .ok (.iconst 0, 1) := dgX2_isHeld_0 (4, (.iconst 0, 1)) (List.mem_of_getElem? (i := 2) rfl)
theorem dX2_isHeld_5 : decode cX2_isHeld 5 = .ok (.ireturn, 1) := dgX2_isHeld_0 (5, (.ireturn, 1)) (List.mem_of_getElem? (i := 3) rfl)
theorem dX2_isHeld_6 : decode cX2_isHeld 6 = .ok (.aload_n 1, 1) := dgX2_isHeld_0 (6, (.aload_n 1, 1)) (List.mem_of_getElem? (i := 4) rfl)
theorem dX2_isHeld_7 : decode cX2_isHeld 7 = .ok (.getfield 19, 3) := dgX2_isHeld_0 (7, (.getfield 19, 3)) (List.mem_of_getElem? (i := 5) rfl)
theorem dX2_isHeld_10 : decode cX2_isHeld 10 = .ok (.iconst 1, 1) := dgX2_isHeld_0 (10, (.iconst 1, 1)) (List.mem_of_getElem? (i := 6) rfl)
theorem dX2_isHeld_11 : decode cX2_isHeld 11 = .ok (.isub, 1) := dgX2_isHeld_0 (11, (.isub, 1)) (List.mem_of_getElem? (i := 7) rfl)
theorem dX2_isHeld_12 : decode cX2_isHeld 12 = .ok (.istore_n 3, 1) := dgX2_isHeld_0 (12, (.istore_n 3, 1)) (List.mem_of_getElem? (i := 8) rfl)
theorem dX2_isHeld_13 : decode cX2_isHeld 13 = .ok (.iload_n 3, 1) := dgX2_isHeld_0 (13, (.iload_n 3, 1)) (List.mem_of_getElem? (i := 9) rfl)
theorem dX2_isHeld_14 : decode cX2_isHeld 14 = .ok (.ifCond .lt 30, 3) := dgX2_isHeld_0 (14, (.ifCond .lt 30, 3)) (List.mem_of_getElem? (i := 10) rfl)
theorem dX2_isHeld_17 : decode cX2_isHeld 17 = .ok (.aload_n 1, 1) := dgX2_isHeld_0 (17, (.aload_n 1, 1)) (List.mem_of_getElem? (i := 11) rfl)
theorem dX2_isHeld_18 : decode cX2_isHeld 18 = .ok (.getfield 25, 3) := dgX2_isHeld_0 (18, (.getfield 25, 3)) (List.mem_of_getElem? (i := 12) rfl)
theorem dX2_isHeld_21 : decode cX2_isHeld 21 = .ok (.iload_n 3, 1) := dgX2_isHeld_0 (21, (.iload_n 3, 1)) (List.mem_of_getElem? (i := 13) rfl)
theorem dX2_isHeld_22 : decode cX2_isHeld 22 = .ok (.iaload, 1) := dgX2_isHeld_0 (22, (.iaload, 1)) (List.mem_of_getElem? (i := 14) rfl)
theorem dX2_isHeld_23 : decode cX2_isHeld 23 = .ok (.iload_n 2, 1) := dgX2_isHeld_0 (23, (.iload_n 2, 1)) (List.mem_of_getElem? (i := 15) rfl)
theorem dX2_isHeld_24 : decode cX2_isHeld 24 = .ok (.if_icmp .ne 14, 3) := dgX2_isHeld_0 (24, (.if_icmp .ne 14, 3)) (List.mem_of_getElem? (i := 16) rfl)
theorem dX2_isHeld_27 : decode cX2_isHeld 27 = .ok (.aload_n 0, 1) := dgX2_isHeld_0 (27, (.aload_n 0, 1)) (List.mem_of_getElem? (i := 17) rfl)
theorem dX2_isHeld_28 : decode cX2_isHeld 28 = .ok (.aload_n 1, 1) := dgX2_isHeld_0 (28, (.aload_n 1, 1)) (List.mem_of_getElem? (i := 18) rfl)
theorem dX2_isHeld_29 : decode cX2_isHeld 29 = .ok (.iload_n 3, 1) := dgX2_isHeld_0 (29, (.iload_n 3, 1)) (List.mem_of_getElem? (i := 19) rfl)
theorem dX2_isHeld_30 : decode cX2_isHeld 30 = .ok (.invokevirtual 28, 3) := dgX2_isHeld_0 (30, (.invokevirtual 28, 3)) (List.mem_of_getElem? (i := 20) rfl)
theorem dX2_isHeld_33 : decode cX2_isHeld 33 = .ok (.ifCond .eq 5, 3) := dgX2_isHeld_0 (33, (.ifCond .eq 5, 3)) (List.mem_of_getElem? (i := 21) rfl)
theorem dX2_isHeld_36 : decode cX2_isHeld 36 = .ok (.iconst 1, 1) := dgX2_isHeld_0 (36, (.iconst 1, 1)) (List.mem_of_getElem? (i := 22) rfl)
theorem dX2_isHeld_37 : decode cX2_isHeld 37 = .ok (.ireturn, 1) := dgX2_isHeld_0 (37, (.ireturn, 1)) (List.mem_of_getElem? (i := 23) rfl)
theorem dX2_isHeld_38 : decode cX2_isHeld 38 = .ok (.iinc 3 (-1), 3) := dgX2_isHeld_0 (38, (.iinc 3 (-1), 3)) (List.mem_of_getElem? (i := 24) rfl)
theorem dX2_isHeld_41 : decode cX2_isHeld 41 = .ok (.goto (-28), 3) := dgX2_isHeld_0 (41, (.goto (-28), 3)) (List.mem_of_getElem? (i := 25) rfl)
theorem dX2_isHeld_44 : decode cX2_isHeld 44 = .ok (.iconst 0, 1) := dgX2_isHeld_0 (44, (.iconst 0, 1)) (List.mem_of_getElem? (i := 26) rfl)
theorem dX2_isHeld_45 : decode cX2_isHeld 45 = .ok (.ireturn, 1) := dgX2_isHeld_0 (45, (.ireturn, 1)) (List.mem_of_getElem? (i := 27) rfl)
set_option maxHeartbeats 4000000 in
set_option maxRecDepth 100000 in
theorem j_isHeldN (l : Launch) (G : g5_G) (a_j a_as a_sk : Nat) (sz : Nat) (p_h : Int32) (f_as : Nat → Int32) (f_sk : Nat → Int64) : Met l yX2_isHeld (wsG yX2_isHeld cX2_isHeld 4 (some .boolean)) ({ frames := 0, cells := 0, slots := 0, locals := 0 }) (va_Pc [.ref a_j, .null, .int p_h] (g5_P G [(a_j, (oc2 a_as a_sk)), (a_as, (arI G 8 f_as)), (a_sk, (arJ G 50 f_sk))] sz)) (va_Qi (fun (r : Int32) (u : va_W) => ((r = 0) ∧ (u = [(a_j, (oc2 a_as a_sk)), (a_as, (arI G 8 f_as)), (a_sk, (arJ G 50 f_sk))]))) (g5_B G (va_A [(a_j, (oc2 a_as a_sk)), (a_as, (arI G 8 f_as)), (a_sk, (arJ G 50 f_sk))] sz)) (va_A [(a_j, (oc2 a_as a_sk)), (a_as, (arI G 8 f_as)), (a_sk, (arJ G 50 f_sk))] sz)) 0 0 (va_A [(a_j, (oc2 a_as a_sk)), (a_as, (arI G 8 f_as)), (a_sk, (arJ G 50 f_sk))] sz) := by
  refine Met.ofW (cc := cX2_isHeld) (maxL := 4) (ret := (some .boolean)) (by decide) rfl ?_
  intro p e s m args below meth c s₁ B hml hv
  obtain ⟨rfl, hsz, hP, hK, hD0, hN, hT⟩ := hv
  have hx := B.exec
  have hb := B.bytes
  have hr := B.returns
  have hts : ∀ w ∈ tblG, w.before _ s = true := fun w h => atoms_spec (ws := (wsG yX2_isHeld cX2_isHeld 4 (some .boolean))) B.pre w (List.mem_cons_of_mem _ h)
  have hown : s.vm.findClass RX2 = some m.cls := findClass_of_methodNamed B.named
  have hlocks := B.notSynchronized
  subst hsz
  have hD := hD0.self (sz := s.heap.size)
  generalize hAe : va_A [(a_j, (oc2 a_as a_sk)), (a_as, (arI G 8 f_as)), (a_sk, (arJ G 50 f_sk))] s.heap.size = A at hD hT ⊢
  have hA : ∀ q : Nat, s.heap.size ≤ q → A q := fun q h => by rw [← hAe]; exact Or.inr h
  have hS : va_S A s.heap s.heap [] := va_S.rf
  have hP : va_P G.1 vwCl [(a_j, (oc2 a_as a_sk)), (a_as, (arI G 8 f_as)), (a_sk, (arJ G 50 f_sk))] s.heap := hP
  have hl := lv_entry ([.ref a_j, .null, .int p_h]) (n := 4) (Nat.le_of_ble_eq_true rfl)
  rw [lg_entry_eq]
  generalize (lg_sl ([.ref a_j, .null, .int p_h]) ++ List.replicate (4 - (lg_sl ([.ref a_j, .null, .int p_h])).length) Slot.unset).toArray = ls at hl ⊢
  have hl : lv_has ls 4 [(0, .ref a_j), (1, .null), (2, .int p_h)] := hl
  refine lv_aload_nN hx hb dX2_isHeld_0 rfl (lv_at hl 1 rfl) ?_
  refine lv_ifnonnullN hx hb dX2_isHeld_1 ?_
  refine lv_iconst (v := 0) hx hb dX2_isHeld_4 (by decide) ?_
  exact W.zret (v := 0) hx hb hr rfl (fun t ht hW => ⟨⟨0, [(a_j, (oc2 a_as a_sk)), (a_as, (arI G 8 f_as)), (a_sk, (arJ G 50 f_sk))], rfl, ⟨rfl, rfl⟩, by rw [ht]; exact hP.sub [0, 1, 2] rfl, hD.sub [0, 1, 2] (by decide) rfl⟩, hS.F ht⟩) hS.2.2 dX2_isHeld_5
theorem fl_X2_19 : Cond.fieldLink RX2 19 "LateGlass$Law" "clauses" "I" ∈ tblG := tg 779 (by decide +kernel) (by decide +kernel)
theorem fl_X2_25 : Cond.fieldLink RX2 25 "LateGlass$Law" "heads" "[I" ∈ tblG := tg 781 (by decide +kernel) (by decide +kernel)
theorem ml_X2_28 : Cond.methodLink RX2 28 yX2_holds ∈ tblG := tg 842 (by decide +kernel) (by decide +kernel)
theorem im_X2_holds : Cond.instanceMethod yX2_holds ∈ tblG := tg 844 (by decide +kernel) (by decide +kernel)
theorem se_X2_holds : Cond.selects RX2 yX2_holds yX2_holds ∈ tblG := tg 16 (by decide +kernel) (by decide +kernel)
theorem cd_X2_holds : Cond.code yX2_holds cX2_holds 8 (some .boolean) ∈ tblG := tg 845 (by decide +kernel) (by decide +kernel)
theorem gW_X2_holds : GoodIn tblG (wsG yX2_holds cX2_holds 8 (some .boolean)) := tgi cd_X2_holds
theorem gV_X2_28 : GoodIn tblG (wsV RX2 28 RX2 yX2_holds (wsG yX2_holds cX2_holds 8 (some .boolean))) := tgV ml_X2_28 im_X2_holds se_X2_holds ini_X2 gW_X2_holds
theorem hv_X2_holds : yX2_holds.cls = RX2 ∧ yX2_holds.cls ≠ "java/lang/invoke/MethodHandle" ∧ yX2_holds.cls ≠ "java/lang/invoke/VarHandle" ∧ (parseMethodDescriptor yX2_holds.desc).map (fun d => d.parameters.length) = some 2 := by decide +kernel
set_option maxHeartbeats 4000000 in
set_option maxRecDepth 100000 in
theorem j_isHeld (l : Launch) (G : g5_G) (a_j a_as a_sk a_lo a_sr a_cd a_hd : Nat) (sz : Nat) (p_h : Int32) (e_cl : Int32) (f_as : Nat → Int32) (f_sk : Nat → Int64) (f_sr : Nat → Int32) (f_cd : Nat → Int32) (f_hd : Nat → Int32) (n_sr : Nat) (n_cd : Nat) (n_hd : Nat) (h_e_cl : 0 ≤ e_cl.toInt ∧ e_cl.toInt ≤ 12) (e_hn : n_cd ≤ 400) (e_hs : ∀ j : Nat, j < n_sr → 0 ≤ (f_sr j).toInt ∧ (f_sr j).toInt ≤ (n_cd : Int)) (e_hk : ∀ j : Nat, j < n_cd → (f_cd j >>> (12 &&& 31)).toInt = 1 → (f_cd j &&& 4095).toInt < 8) (e_c : (e_cl.toInt : Int) ≤ (n_hd : Int) ∧ (e_cl.toInt + 1 : Int) ≤ (n_sr : Int)) : Met l yX2_isHeld (wsG yX2_isHeld cX2_isHeld 4 (some .boolean)) ({ frames := 2, cells := 0, slots := 0, locals := 55 }) (va_Pc [.ref a_j, .ref a_lo, .int p_h] (g5_P G [(a_j, (oc2 a_as a_sk)), (a_as, (arI G 8 f_as)), (a_sk, (arJ G 50 f_sk)), (a_lo, (oc3 e_cl a_hd a_sr a_cd)), (a_sr, (arI G n_sr f_sr)), (a_cd, (arI G n_cd f_cd)), (a_hd, (arI G n_hd f_hd))] sz)) (va_Qi (fun (r : Int32) (u : va_W) => (∃ (o_r : Int32) (o_k : Nat → Int64), (0 ≤ o_r.toInt ∧ o_r.toInt ≤ 1) ∧ (r = o_r) ∧ (u = [(a_j, (oc2 a_as a_sk)), (a_as, (arI G 8 f_as)), (a_sk, (arJ G 50 o_k)), (a_lo, (oc3 e_cl a_hd a_sr a_cd)), (a_sr, (arI G n_sr f_sr)), (a_cd, (arI G n_cd f_cd)), (a_hd, (arI G n_hd f_hd))]))) (g5_B G (va_A [(a_j, (oc2 a_as a_sk)), (a_as, (arI G 8 f_as)), (a_sk, (arJ G 50 f_sk)), (a_lo, (oc3 e_cl a_hd a_sr a_cd)), (a_sr, (arI G n_sr f_sr)), (a_cd, (arI G n_cd f_cd)), (a_hd, (arI G n_hd f_hd))] sz)) (va_A [(a_j, (oc2 a_as a_sk)), (a_as, (arI G 8 f_as)), (a_sk, (arJ G 50 f_sk)), (a_lo, (oc3 e_cl a_hd a_sr a_cd)), (a_sr, (arI G n_sr f_sr)), (a_cd, (arI G n_cd f_cd)), (a_hd, (arI G n_hd f_hd))] sz)) 0 0 (va_A [(a_j, (oc2 a_as a_sk)), (a_as, (arI G 8 f_as)), (a_sk, (arJ G 50 f_sk)), (a_lo, (oc3 e_cl a_hd a_sr a_cd)), (a_sr, (arI G n_sr f_sr)), (a_cd, (arI G n_cd f_cd)), (a_hd, (arI G n_hd f_hd))] sz) := by
  refine Met.ofW (cc := cX2_isHeld) (maxL := 4) (ret := (some .boolean)) (by decide +kernel) rfl ?_
  intro p e s m args below meth c s₁ B hml hv
  obtain ⟨rfl, hsz, hP, hK, hD0, hN, hT⟩ := hv
  have hx := B.exec
  have hb := B.bytes
  have hr := B.returns
  have hts : ∀ w ∈ tblG, w.before _ s = true := fun w h => atoms_spec (ws := (wsG yX2_isHeld cX2_isHeld 4 (some .boolean))) B.pre w (List.mem_cons_of_mem _ h)
  have hown : s.vm.findClass RX2 = some m.cls := findClass_of_methodNamed B.named
  have hlocks := B.notSynchronized
  subst hsz
  have hD := hD0.self (sz := s.heap.size)
  generalize hAe : va_A [(a_j, (oc2 a_as a_sk)), (a_as, (arI G 8 f_as)), (a_sk, (arJ G 50 f_sk)), (a_lo, (oc3 e_cl a_hd a_sr a_cd)), (a_sr, (arI G n_sr f_sr)), (a_cd, (arI G n_cd f_cd)), (a_hd, (arI G n_hd f_hd))] s.heap.size = A at hD hT ⊢
  have hA : ∀ q : Nat, s.heap.size ≤ q → A q := fun q h => by rw [← hAe]; exact Or.inr h
  have hS : va_S A s.heap s.heap [] := va_S.rf
  replace hP : va_P G.1 vwCl [(a_j, (oc2 a_as a_sk)), (a_as, (arI G 8 f_as)), (a_sk, (arJ G 50 f_sk)), (a_lo, (oc3 e_cl a_hd a_sr a_cd)), (a_sr, (arI G n_sr f_sr)), (a_cd, (arI G n_cd f_cd)), (a_hd, (arI G n_hd f_hd))] s.heap := hP
  have hl := lv_entry ([.ref a_j, .ref a_lo, .int p_h]) (n := 4) (Nat.le_of_ble_eq_true rfl)
  rw [lg_entry_eq]
  generalize (lg_sl ([.ref a_j, .ref a_lo, .int p_h]) ++ List.replicate (4 - (lg_sl ([.ref a_j, .ref a_lo, .int p_h])).length) Slot.unset).toArray = ls at hl ⊢
  replace hl : lv_has ls 4 [(0, .ref a_j), (1, .ref a_lo), (2, .int p_h)] := hl
  refine lv_aload_n hx hb dX2_isHeld_0 rfl (lv_at hl 1 rfl) ?_
  refine lv_ifnonnull (tgt := 6) hx hb dX2_isHeld_1 (by decide +kernel) ?_
  refine lv_aload_n hx hb dX2_isHeld_6 rfl (lv_at hl 1 rfl) ?_
  refine va_get (D := G.1) (ci := 3) (v := .int e_cl) (C := RX3) (T := TX3) (N := 4) hx hb hts inG_X3 hown hK hP 3 rfl rfl 0 (by decide +kernel) (hts _ fl_X2_19) (fun _ h9 => h9) rfl dX2_isHeld_7 ?_
  refine W.eq (g2 := F0 m 10 ls [.int e_cl]) rfl ?_
  refine lv_iconst (v := 1) hx hb dX2_isHeld_10 (by decide +kernel) ?_
  refine lv_isub hx hb dX2_isHeld_11 ?_
  have t_1 : (e_cl - 1).toInt = e_cl.toInt - 1 := g5_isub (a := e_cl.toInt) (b := 1) (by rfl) (by decide +kernel) (by omega) (by omega)
  refine lv_istore_n (lv' := [(3, .int (e_cl - 1)), (0, .ref a_j), (1, .ref a_lo), (2, .int p_h)]) hx hb dX2_isHeld_12 rfl hl (by decide +kernel) rfl ?_
  clear hl
  intro ls hl
  refine g5_loop (α := (Int32) × (Nat → Int64)) (fun (q : (Int32) × (Nat → Int64)) (ls : Array Slot) (H : Heap) (locs : List Loc) => match q with | (k_c, k_k) => lv_has ls 4 [(3, .int k_c), (0, .ref a_j), (1, .ref a_lo), (2, .int p_h)] ∧ va_P G.1 vwCl [(a_j, (oc2 a_as a_sk)), (a_as, (arI G 8 f_as)), (a_sk, (arJ G 50 k_k)), (a_lo, (oc3 e_cl a_hd a_sr a_cd)), (a_sr, (arI G n_sr f_sr)), (a_cd, (arI G n_cd f_cd)), (a_hd, (arI G n_hd f_hd))] H ∧ va_D A [(a_j, (oc2 a_as a_sk)), (a_as, (arI G 8 f_as)), (a_sk, (arJ G 50 k_k)), (a_lo, (oc3 e_cl a_hd a_sr a_cd)), (a_sr, (arI G n_sr f_sr)), (a_cd, (arI G n_cd f_cd)), (a_hd, (arI G n_hd f_hd))] ∧ va_S A s.heap H locs ∧ ((-1) ≤ k_c.toInt ∧ k_c.toInt ≤ 11) ∧ (k_c.toInt < e_cl.toInt)) (fun (q : (Int32) × (Nat → Int64)) => match q with | (k_c, k_k) => Int.toNat (k_c.toInt + 1)) ((e_cl - 1), f_sk) ⟨lv_sub hl [0, 1, 2, 3] rfl, hP, hD, hS, ⟨by omega, by omega⟩, by omega⟩ ?_
  rintro ⟨k_c, k_k⟩ ls H locs ⟨hl, hP, hD, hS, (i_2 : (-1) ≤ k_c.toInt ∧ k_c.toInt ≤ 11), (i_3 : k_c.toInt < e_cl.toInt)⟩ ih_13_4
  replace hl : lv_has ls 4 [(3, .int k_c), (0, .ref a_j), (1, .ref a_lo), (2, .int p_h)] := hl
  refine g5_rs [(a_j, (oc2 a_as a_sk)), (a_as, (arI G 8 f_as)), (a_sk, (arJ G 50 k_k)), (a_lo, (oc3 e_cl a_hd a_sr a_cd)), (a_sr, (arI G n_sr f_sr)), (a_cd, (arI G n_cd f_cd)), (a_hd, (arI G n_hd f_hd))] hP hD ?_
  clear hP hD
  intro hP hD
  refine lv_iload_n hx hb dX2_isHeld_13 rfl (lv_at hl 0 rfl) ?_
  refine lv_if_lt (tgt := 44) hx hb dX2_isHeld_14 (by decide +kernel) (fun c_5 => ?_) (fun c_5 => ?_)
  ·
    have i_5 : k_c.toInt < 0 := g5_lt (a := k_c.toInt) (b := 0) rfl (by decide +kernel) c_5
    refine lv_iconst (v := 0) hx hb dX2_isHeld_44 (by decide +kernel) ?_
    exact W.zret (v := 0) hx hb hr rfl (fun t ht hW => ⟨⟨0, [(a_j, (oc2 a_as a_sk)), (a_as, (arI G 8 f_as)), (a_sk, (arJ G 50 k_k)), (a_lo, (oc3 e_cl a_hd a_sr a_cd)), (a_sr, (arI G n_sr f_sr)), (a_cd, (arI G n_cd f_cd)), (a_hd, (arI G n_hd f_hd))], rfl, ⟨0, k_k, ⟨by have zc_o_r : (0 : Int32).toInt = 0 := (by decide +kernel); omega, by have zc_o_r : (0 : Int32).toInt = 0 := (by decide +kernel); omega⟩, rfl, rfl⟩, by rw [ht]; exact hP.sub [0, 1, 2, 3, 4, 5, 6] rfl, hD.sub [0, 1, 2, 3, 4, 5, 6] (by decide +kernel) rfl⟩, hS.F ht⟩) hS.2.2 dX2_isHeld_45
  ·
    have i_5 : k_c.toInt ≥ 0 := g5_ltN (a := k_c.toInt) (b := 0) rfl (by decide +kernel) c_5
    refine lv_aload_n hx hb dX2_isHeld_17 rfl (lv_at hl 2 rfl) ?_
    refine va_get (D := G.1) (ci := 3) (v := .ref a_hd) (C := RX3) (T := TX3) (N := 4) hx hb hts inG_X3 hown hK hP 3 rfl rfl 1 (by decide +kernel) (hts _ fl_X2_25) (fun _ h9 => h9) rfl dX2_isHeld_18 ?_
    refine lv_iload_n hx hb dX2_isHeld_21 rfl (lv_at hl 0 rfl) ?_
    refine va_iald hx hb hK hP 6 0 rfl rfl (i := k_c) (vp_in_iff.mpr ⟨by omega, by omega⟩) dX2_isHeld_22 ?_
    refine W.eq (g2 := F0 m 23 ls [.int (f_hd k_c.toNatClampNeg)]) rfl ?_
    refine lv_iload_n hx hb dX2_isHeld_23 rfl (lv_at hl 3 rfl) ?_
    refine lv_icmp_ne (tgt := 38) hx hb dX2_isHeld_24 (by decide +kernel) (fun c_6 => ?_) (fun c_6 => ?_)
    ·
      have n_6 : gNe ((f_hd k_c.toNatClampNeg).toInt) (p_h.toInt) := g5_ne (a := (f_hd k_c.toNatClampNeg).toInt) (b := p_h.toInt) rfl rfl c_6
      obtain ⟨y7, hy_7, t_7⟩ := g_incN k_c (-1) (by decide +kernel) (by omega) (by omega)
      have t_7 : y7.toInt = k_c.toInt + (-1) := t_7
      refine lv_iinc (v := y7) (lv' := [(3, .int y7), (0, .ref a_j), (1, .ref a_lo), (2, .int p_h)]) hx hb dX2_isHeld_38 hl (k := 0) rfl hy_7 (by decide +kernel) rfl ?_
      clear hl
      intro ls hl
      refine lv_goto (tgt := 13) hx hb dX2_isHeld_41 (by decide +kernel) ?_
      exact ih_13_4 (y7, k_k) ls H locs (show Int.toNat (y7.toInt + 1) < Int.toNat (k_c.toInt + 1) from g_dn (show y7.toInt < k_c.toInt by omega) (show 0 ≤ k_c.toInt by omega)) ⟨lv_sub hl [0, 1, 2, 3] rfl, hP, hD, hS, ⟨by omega, by omega⟩, by omega⟩
    ·
      have i_6 : (f_hd k_c.toNatClampNeg).toInt = p_h.toInt := g5_neN (a := (f_hd k_c.toNatClampNeg).toInt) (b := p_h.toInt) rfl rfl c_6
      refine lv_aload_n hx hb dX2_isHeld_27 rfl (lv_at hl 1 rfl) ?_
      refine lv_aload_n hx hb dX2_isHeld_28 rfl (lv_at hl 2 rfl) ?_
      refine lv_iload_n hx hb dX2_isHeld_29 rfl (lv_at hl 0 rfl) ?_
      obtain ⟨hPc, hDc, hFc⟩ := g5_sub3 (wc := [(a_j, (oc2 a_as a_sk)), (a_as, (arI G 8 f_as)), (a_sk, (arJ G 50 k_k)), (a_lo, (oc3 e_cl a_hd a_sr a_cd)), (a_sr, (arI G n_sr f_sr)), (a_cd, (arI G n_cd f_cd))]) hP hD hS hA [0, 1, 2, 3, 4, 5] (by decide +kernel) rfl
      refine va_calli (va_runV (As := [.ref a_lo, .int k_c]) (rest := []) ⟨hx, hb, hml, hown, hts⟩ (j_holds l G a_j a_as a_sk a_lo a_sr a_cd a_hd H.size k_c e_cl f_as k_k f_sr f_cd n_sr n_cd ⟨by omega, by omega⟩ h_e_cl (by omega) (e_hn) (e_hs) (e_hk)) (cwV 2 hts gV_X2_28 rfl rfl rfl hv_X2_holds ⟨Nat.le_of_ble_eq_true rfl, Nat.le_of_ble_eq_true rfl⟩) (g5_preV hPc hK hDc hN hT hS hFc (ci := 2) (q0 := 0) rfl rfl) rfl rfl hl.1 rfl (lv_room (Nat.le_of_ble_eq_true rfl)) dX2_isHeld_30 ⟨Nat.le_of_ble_eq_true rfl, Nat.le_of_ble_eq_true rfl⟩) hS (fun q _ h => hFc q h) hFc (fun r u t H locs ht hvm hw hB hz1 hk1 hS => ?_)
      obtain ⟨hP1, hD1⟩ := hB
      have hP1 := g5_ht ht hP1
      obtain ⟨z9, z10, (i_8 : 0 ≤ z9.toInt ∧ z9.toInt ≤ 1), y11, rfl⟩ := hw
      have hJ9 := va_join (wr := [(a_hd, (arI G n_hd f_hd))]) hP hD [0, 1, 2, 3, 4, 5] [6] rfl rfl (by decide +kernel) (by decide +kernel) hk1 hFc hP1 hD1
      clear hP hD hPc hDc hFc ht hvm hz1 hk1 hP1 hD1
      obtain ⟨hP, hD⟩ := hJ9
      refine g5_rs [(a_hd, (arI G n_hd f_hd)), (a_j, (oc2 a_as a_sk)), (a_as, (arI G 8 f_as)), (a_sk, (arJ G 50 z10)), (a_lo, (oc3 e_cl a_hd a_sr a_cd)), (a_sr, (arI G n_sr f_sr)), (a_cd, (arI G n_cd f_cd))] hP hD ?_
      clear hP hD
      intro hP hD
      refine g5_ti (v := z9) y11 ?_
      refine W.eq (g2 := F0 m 33 ls [.int z9]) rfl ?_
      refine lv_if_eq (tgt := 38) hx hb dX2_isHeld_33 (by decide +kernel) (fun c_12 => ?_) (fun c_12 => ?_)
      ·
        have i_12 : z9.toInt = 0 := g5_eq (a := z9.toInt) (b := 0) rfl (by decide +kernel) c_12
        obtain ⟨y13, hy_13, t_13⟩ := g_incN k_c (-1) (by decide +kernel) (by omega) (by omega)
        have t_13 : y13.toInt = k_c.toInt + (-1) := t_13
        refine lv_iinc (v := y13) (lv' := [(3, .int y13), (0, .ref a_j), (1, .ref a_lo), (2, .int p_h)]) hx hb dX2_isHeld_38 hl (k := 0) rfl hy_13 (by decide +kernel) rfl ?_
        clear hl
        intro ls hl
        refine lv_goto (tgt := 13) hx hb dX2_isHeld_41 (by decide +kernel) ?_
        exact ih_13_4 (y13, z10) ls H locs (show Int.toNat (y13.toInt + 1) < Int.toNat (k_c.toInt + 1) from g_dn (show y13.toInt < k_c.toInt by omega) (show 0 ≤ k_c.toInt by omega)) ⟨lv_sub hl [0, 1, 2, 3] rfl, hP.sub [1, 2, 3, 4, 5, 6, 0] rfl, hD.sub [1, 2, 3, 4, 5, 6, 0] (by decide +kernel) rfl, hS, ⟨by omega, by omega⟩, by omega⟩
      ·
        have n_12 : gNe (z9.toInt) (0) := g5_eqN (a := z9.toInt) (b := 0) rfl (by decide +kernel) c_12
        have i_12 : z9.toInt ≥ 1 := by have z := g5_eqN (a := z9.toInt) (b := 0) (by rfl) (by decide +kernel) c_12; omega
        refine lv_iconst (v := 1) hx hb dX2_isHeld_36 (by decide +kernel) ?_
        exact W.zret (v := 1) hx hb hr rfl (fun t ht hW => ⟨⟨1, [(a_j, (oc2 a_as a_sk)), (a_as, (arI G 8 f_as)), (a_sk, (arJ G 50 z10)), (a_lo, (oc3 e_cl a_hd a_sr a_cd)), (a_sr, (arI G n_sr f_sr)), (a_cd, (arI G n_cd f_cd)), (a_hd, (arI G n_hd f_hd))], rfl, ⟨1, z10, ⟨by have zc_o_r : (1 : Int32).toInt = 1 := (by decide +kernel); omega, by have zc_o_r : (1 : Int32).toInt = 1 := (by decide +kernel); omega⟩, rfl, rfl⟩, by rw [ht]; exact hP.sub [1, 2, 3, 4, 5, 6, 0] rfl, hD.sub [1, 2, 3, 4, 5, 6, 0] (by decide +kernel) rfl⟩, hS.F ht⟩) hS.2.2 dX2_isHeld_37
theorem dgX2_toldUpTo_0 : ∀ r ∈ ([(0, (.lconst 0, 1)), (1, (.iload_n 1, 1)), (2, (.i2l, 1)), (3, (.aload_n 0, 1)), (4, (.getfield 15, 3)), (7, (.iconst 0, 1)), (8, (.laload, 1)), (9, (.invokestatic 32, 3)), (12, (.invokestatic 38, 3)), (15, (.l2i, 1)), (16, (.ireturn, 1))] : List (Nat × (Instr × Nat))), decode cX2_toldUpTo r.1 = .ok r.2 := by decide +kernel
theorem dX2_toldUpTo_0 : decode cX2_toldUpTo 0 = .ok (.lconst 0, 1) := dgX2_toldUpTo_0 (0, (.lconst 0, 1)) (List.mem_of_getElem? (i := 0) rfl)
theorem dX2_toldUpTo_1 : decode cX2_toldUpTo 1 = .ok (.iload_n 1, 1) := dgX2_toldUpTo_0 (1, (.iload_n 1, 1)) (List.mem_of_getElem? (i := 1) rfl)
theorem dX2_toldUpTo_2 : decode cX2_toldUpTo 2 = .ok (.i2l, 1) := dgX2_toldUpTo_0 (2, (.i2l, 1)) (List.mem_of_getElem? (i := 2) rfl)
theorem dX2_toldUpTo_3 : decode cX2_toldUpTo 3 = .ok (.aload_n 0, 1) := dgX2_toldUpTo_0 (3, (.aload_n 0, 1)) (List.mem_of_getElem? (i := 3) rfl)
theorem dX2_toldUpTo_4 : decode cX2_toldUpTo 4 = .ok (.getfield 15, 3) := dgX2_toldUpTo_0 (4, (.getfield 15, 3)) (List.mem_of_getElem? (i := 4) rfl)
theorem dX2_toldUpTo_7 : decode cX2_toldUpTo 7 = .ok (.iconst 0, 1) := dgX2_toldUpTo_0 (7, (.iconst 0, 1)) (List.mem_of_getElem? (i := 5) rfl)
theorem dX2_toldUpTo_8 : decode cX2_toldUpTo 8 = .ok (.laload, 1) := dgX2_toldUpTo_0 (8, (.laload, 1)) (List.mem_of_getElem? (i := 6) rfl)
theorem dX2_toldUpTo_9 : decode cX2_toldUpTo 9 = .ok (.invokestatic 32, 3) := dgX2_toldUpTo_0 (9, (.invokestatic 32, 3)) (List.mem_of_getElem? (i := 7) rfl)
theorem dX2_toldUpTo_12 : decode cX2_toldUpTo 12 = .ok (.invokestatic 38, 3) := dgX2_toldUpTo_0 (12, (.invokestatic 38, 3)) (List.mem_of_getElem? (i := 8) rfl)
theorem dX2_toldUpTo_15 : decode cX2_toldUpTo 15 = .ok (.l2i, 1) := dgX2_toldUpTo_0 (15, (.l2i, 1)) (List.mem_of_getElem? (i := 9) rfl)
theorem dX2_toldUpTo_16 : decode cX2_toldUpTo 16 = .ok (.ireturn, 1) := dgX2_toldUpTo_0 (16, (.ireturn, 1)) (List.mem_of_getElem? (i := 10) rfl)
theorem ml_X2_32 : Cond.methodLink RX2 32 Lib.MathLoose.min_long.x ∈ tblG := tg 864 (by decide +kernel) (by decide +kernel)
theorem st_Math_minJ : Cond.static Lib.MathLoose.min_long.x ∈ tblG := tg 865 (by decide +kernel) (by decide +kernel)
theorem cd_Math_minJ : Cond.code Lib.MathLoose.min_long.x Lib.MathLoose.min_long.code 4 (some .long) ∈ tblG := tg 866 (by decide +kernel) (by decide +kernel)
theorem ml_X2_38 : Cond.methodLink RX2 38 Lib.MathLoose.max_long.x ∈ tblG := tg 867 (by decide +kernel) (by decide +kernel)
theorem st_Math_maxJ : Cond.static Lib.MathLoose.max_long.x ∈ tblG := tg 868 (by decide +kernel) (by decide +kernel)
theorem cd_Math_maxJ : Cond.code Lib.MathLoose.max_long.x Lib.MathLoose.max_long.code 4 (some .long) ∈ tblG := tg 869 (by decide +kernel) (by decide +kernel)
set_option maxHeartbeats 4000000 in
set_option maxRecDepth 100000 in
theorem j_told (l : Launch) (G : g5_G) (a_j a_sk a_as : Nat) (sz : Nat) (p_m : Int32) (f_sk : Nat → Int64) (h_p_m : 0 ≤ p_m.toInt ∧ p_m.toInt ≤ 1000) : Met l yX2_toldUpTo (wsG yX2_toldUpTo cX2_toldUpTo 2 (some .int)) ({ frames := 1, cells := 0, slots := 0, locals := 22 }) (va_Pc [.ref a_j, .int p_m] (g5_P G [(a_j, (oc2 a_as a_sk)), (a_sk, (arJ G 50 f_sk))] sz)) (va_Qi (fun (r : Int32) (u : va_W) => (∃ (o_r : Int32), (0 ≤ o_r.toInt ∧ o_r.toInt ≤ p_m.toInt) ∧ (r = o_r) ∧ (u = [(a_j, (oc2 a_as a_sk)), (a_sk, (arJ G 50 f_sk))]))) (g5_B G (va_A [(a_j, (oc2 a_as a_sk)), (a_sk, (arJ G 50 f_sk))] sz)) (va_A [(a_j, (oc2 a_as a_sk)), (a_sk, (arJ G 50 f_sk))] sz)) 0 0 (va_A [(a_j, (oc2 a_as a_sk)), (a_sk, (arJ G 50 f_sk))] sz) := by
  refine Met.ofW (cc := cX2_toldUpTo) (maxL := 2) (ret := (some .int)) (by decide) rfl ?_
  intro p e s m args below meth c s₁ B hml hv
  obtain ⟨rfl, hsz, hP, hK, hD0, hN, hT⟩ := hv
  have hx := B.exec
  have hb := B.bytes
  have hr := B.returns
  have hts : ∀ w ∈ tblG, w.before _ s = true := fun w h => atoms_spec (ws := (wsG yX2_toldUpTo cX2_toldUpTo 2 (some .int))) B.pre w (List.mem_cons_of_mem _ h)
  have hown : s.vm.findClass RX2 = some m.cls := findClass_of_methodNamed B.named
  have hlocks := B.notSynchronized
  subst hsz
  have hD := hD0.self (sz := s.heap.size)
  generalize hAe : va_A [(a_j, (oc2 a_as a_sk)), (a_sk, (arJ G 50 f_sk))] s.heap.size = A at hD hT ⊢
  have hA : ∀ q : Nat, s.heap.size ≤ q → A q := fun q h => by rw [← hAe]; exact Or.inr h
  have hS : va_S A s.heap s.heap [] := va_S.rf
  have hP : va_P G.1 vwCl [(a_j, (oc2 a_as a_sk)), (a_sk, (arJ G 50 f_sk))] s.heap := hP
  have hl := lv_entry ([.ref a_j, .int p_m]) (n := 2) (Nat.le_of_ble_eq_true rfl)
  rw [lg_entry_eq]
  generalize (lg_sl ([.ref a_j, .int p_m]) ++ List.replicate (2 - (lg_sl ([.ref a_j, .int p_m])).length) Slot.unset).toArray = ls at hl ⊢
  have hl : lv_has ls 2 [(0, .ref a_j), (1, .int p_m)] := hl
  refine lv_lconst (v := 0) hx hb dX2_toldUpTo_0 (by decide) ?_
  refine lv_iload_n hx hb dX2_toldUpTo_1 rfl (lv_at hl 1 rfl) ?_
  refine lv_i2l (v := p_m.toInt64) hx hb dX2_toldUpTo_2 rfl ?_
  refine lv_aload_n hx hb dX2_toldUpTo_3 rfl (lv_at hl 0 rfl) ?_
  refine W.eq (g2 := F0 m 4 ls [.ref a_j, .long p_m.toInt64, .long 0]) rfl ?_
  refine va_get (D := G.1) (ci := 2) (v := .ref a_sk) (C := RX2) (T := TX2) (N := 2) hx hb hts inG_X2 hown hK hP 0 rfl rfl 1 (by decide) (hts _ fl_X2_15) (fun _ h9 => h9) rfl dX2_toldUpTo_4 ?_
  refine lv_iconst (v := 0) hx hb dX2_toldUpTo_7 (by decide) ?_
  refine va_lald hx hb hK hP 1 1 rfl rfl (i := 0) (by unfold vp_in; decide) dX2_toldUpTo_8 ?_
  refine g5_tl (v := (f_sk 0)) rfl ?_
  refine va_mmin_long hx hb (hml.trans hl.1.symm) hown (hts _ ml_X2_32) (hts _ st_Math_minJ) (hts _ ini_Math) (hts _ cd_Math_minJ) (Nat.le_of_ble_eq_true rfl) (by decide) (Nat.le_of_ble_eq_true rfl) (Nat.le_of_ble_eq_true rfl) dX2_toldUpTo_9 ?_
  refine va_mmax_long hx hb (hml.trans hl.1.symm) hown (hts _ ml_X2_38) (hts _ st_Math_maxJ) (hts _ ini_Math) (hts _ cd_Math_maxJ) (Nat.le_of_ble_eq_true rfl) (by decide) (Nat.le_of_ble_eq_true rfl) (Nat.le_of_ble_eq_true rfl) dX2_toldUpTo_12 ?_
  refine W.eq (g2 := F0 m 15 ls [.long (if (if (f_sk 0) < p_m.toInt64 then (f_sk 0) else p_m.toInt64) < 0 then 0 else (if (f_sk 0) < p_m.toInt64 then (f_sk 0) else p_m.toInt64))]) rfl ?_
  refine lv_l2i (v := (if (if (f_sk 0) < p_m.toInt64 then (f_sk 0) else p_m.toInt64) < 0 then 0 else (if (f_sk 0) < p_m.toInt64 then (f_sk 0) else p_m.toInt64)).toInt32) hx hb dX2_toldUpTo_15 rfl ?_
  exact W.iret (v := (if (if (f_sk 0) < p_m.toInt64 then (f_sk 0) else p_m.toInt64) < 0 then 0 else (if (f_sk 0) < p_m.toInt64 then (f_sk 0) else p_m.toInt64)).toInt32) hx hb hr (fun t ht hW => ⟨⟨(if (if (f_sk 0) < p_m.toInt64 then (f_sk 0) else p_m.toInt64) < 0 then 0 else (if (f_sk 0) < p_m.toInt64 then (f_sk 0) else p_m.toInt64)).toInt32, [(a_j, (oc2 a_as a_sk)), (a_sk, (arJ G 50 f_sk))], rfl, ⟨((if (if (f_sk 0) < p_m.toInt64 then (f_sk 0) else p_m.toInt64) < 0 then 0 else (if (f_sk 0) < p_m.toInt64 then (f_sk 0) else p_m.toInt64)).toInt32), g_told (by omega) (by omega), rfl, rfl⟩, by rw [ht]; exact hP.sub [0, 1] rfl, hD.sub [0, 1] (by decide) rfl⟩, hS.F ht⟩) hS.2.2 dX2_toldUpTo_16
