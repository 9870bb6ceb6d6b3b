set_option maxHeartbeats 4000000 in
set_option maxRecDepth 100000 in
theorem t_open_W (l : Launch) (G : g5_G) (a_t a_n : Nat) (sz : Nat) (e_n : Int32) (p_v : Int32) (f_n : Nat → Int32) (h_e_n : 0 ≤ e_n.toInt ∧ e_n.toInt ≤ 6) : Met l yX6_open (wsG yX6_open cX6_open 4 (some .int)) ({ frames := 2, cells := 0, slots := 0, locals := 44 }) (va_Pc [.ref a_t, .int p_v] (g5_P G [(a_t, .inr (6, [.int 6, .int 6, .ref a_n, .int e_n])), (a_n, .inl (G.2 0, 36, .inl f_n))] sz)) (va_Qi (fun (r : Int32) (u : va_W) => ((e_n.toInt = 6) ∧ (r = (-1)) ∧ (u = [(a_t, .inr (6, [.int 6, .int 6, .ref a_n, .int e_n])), (a_n, .inl (G.2 0, 36, .inl f_n))])) ∨ (∃ (o_f : Nat → Int32), (e_n.toInt < 6) ∧ ((e_n + 1).toInt = e_n.toInt + 1) ∧ (o_f = tfil f_n e_n.toInt 6 p_v 6) ∧ (r = e_n) ∧ (u = [(a_t, .inr (6, [.int 6, .int 6, .ref a_n, .int (e_n + 1)])), (a_n, .inl (G.2 0, 36, .inl o_f))]))) (g5_B G (va_A [(a_t, .inr (6, [.int 6, .int 6, .ref a_n, .int e_n])), (a_n, .inl (G.2 0, 36, .inl f_n))] sz)) (va_A [(a_t, .inr (6, [.int 6, .int 6, .ref a_n, .int e_n])), (a_n, .inl (G.2 0, 36, .inl f_n))] sz)) 0 0 (va_A [(a_t, .inr (6, [.int 6, .int 6, .ref a_n, .int e_n])), (a_n, .inl (G.2 0, 36, .inl f_n))] sz) := by
  refine Met.ofW (cc := cX6_open) (maxL := 4) (ret := (some .int)) (by decide) rfl ?_
  intro p e s m args below meth c s₁ B hml hv
  obtain ⟨rfl, hsz, hP, hK, hD0, hN, hT⟩ := hv
  have hx := B.exec
  have hb := B.bytes
  have hr := B.returns
  have hts : ∀ w ∈ tblG, w.before _ s = true := fun w h => atoms_spec (ws := (wsG yX6_open cX6_open 4 (some .int))) B.pre w (List.mem_cons_of_mem _ h)
  have hown : s.vm.findClass RX6 = some m.cls := findClass_of_methodNamed B.named
  have hlocks := B.notSynchronized
  subst hsz
  have hD := hD0.self (sz := s.heap.size)
  generalize hAe : va_A [(a_t, .inr (6, [.int 6, .int 6, .ref a_n, .int e_n])), (a_n, .inl (G.2 0, 36, .inl f_n))] s.heap.size = A at hD hT ⊢
  have hA : ∀ q : Nat, s.heap.size ≤ q → A q := fun q h => by rw [← hAe]; exact Or.inr h
  have hS : va_S A s.heap s.heap [] := va_S.rf
  have hP : va_P G.1 vwCl [(a_t, .inr (6, [.int 6, .int 6, .ref a_n, .int e_n])), (a_n, .inl (G.2 0, 36, .inl f_n))] s.heap := hP
  have hl := lv_entry ([.ref a_t, .int p_v]) (n := 4) (Nat.le_of_ble_eq_true rfl)
  rw [lg_entry_eq]
  generalize (lg_sl ([.ref a_t, .int p_v]) ++ List.replicate (4 - (lg_sl ([.ref a_t, .int p_v])).length) Slot.unset).toArray = ls at hl ⊢
  have hl : lv_has ls 4 [(0, .ref a_t), (1, .int p_v)] := hl
  refine lv_aload_n hx hb dX6_open_0 rfl (lv_at hl 0 rfl) ?_
  have hPc := hP.sub (ws' := [(a_t, .inr (6, [.int 6, .int 6, .ref a_n, .int e_n]))]) [0] rfl
  have hDc := hD.sub (ws' := [(a_t, .inr (6, [.int 6, .int 6, .ref a_n, .int e_n]))]) [0] (by decide) rfl
  have hFc := va_free (wc := [(a_t, .inr (6, [.int 6, .int 6, .ref a_n, .int e_n]))]) hD hS hA [0] rfl
  refine va_calli (va_runV (As := []) (rest := []) ⟨hx, hb, hml, hown, hts⟩ (t_isFull_W l G a_t a_n s.heap.size e_n ⟨by omega, by omega⟩) (cwV 0 hts gV_X6_33 rfl rfl rfl hv_X6_isFull ⟨Nat.le_of_ble_eq_true rfl, Nat.le_of_ble_eq_true rfl⟩) (g5_preV hPc hK hDc hN hT hS hFc (ci := 6) (q0 := 0) rfl rfl) rfl rfl hl.1 rfl (lv_room (Nat.le_of_ble_eq_true rfl)) dX6_open_1 ⟨Nat.le_of_ble_eq_true rfl, Nat.le_of_ble_eq_true rfl⟩) hS (fun q _ h => hFc q h) hFc (fun r u t H1 locs ht hvm hw hB hz1 hk1 hS => ?_)
  obtain ⟨hP1, hD1⟩ := hB
  rw [ht] at hP1
  rcases hw with ⟨i_1, rfl, rfl⟩ | ⟨i_2, rfl, rfl⟩
  ·
    have i_1 : e_n.toInt = 6 := i_1
    obtain ⟨hP, hD⟩ := va_join (wr := [(a_n, .inl (G.2 0, 36, .inl f_n))]) (w1 := [(a_t, .inr (6, [.int 6, .int 6, .ref a_n, .int e_n]))]) hP hD [0] [1] rfl rfl (by decide) (by decide) hk1 hFc hP1 hD1
    generalize H1 = H at hP hS ⊢
    have hP : va_P G.1 vwCl [(a_n, .inl (G.2 0, 36, .inl f_n)), (a_t, .inr (6, [.int 6, .int 6, .ref a_n, .int e_n]))] H := hP
    have hD : va_D A [(a_n, .inl (G.2 0, 36, .inl f_n)), (a_t, .inr (6, [.int 6, .int 6, .ref a_n, .int e_n]))] := hD
    refine lv_if_eq (tgt := 9) hx hb dX6_open_4 (by decide) (fun c_3 => ?_) (fun c_3 => ?_)
    ·
      exact absurd c_3 (by decide)
    ·
      refine lv_iconst (v := (-1)) hx hb dX6_open_7 (by decide) ?_
      exact W.iret (v := (-1)) hx hb hr (fun t ht hW => ⟨⟨(-1), [(a_t, .inr (6, [.int 6, .int 6, .ref a_n, .int e_n])), (a_n, .inl (G.2 0, 36, .inl f_n))], rfl, Or.inl (⟨by omega, rfl, rfl⟩), by rw [ht]; exact hP.sub [1, 0] rfl, hD.sub [1, 0] (by decide) rfl⟩, hS.F ht⟩) hS.2.2 dX6_open_8
  ·
    have i_2 : e_n.toInt < 6 := i_2
    obtain ⟨hP, hD⟩ := va_join (wr := [(a_n, .inl (G.2 0, 36, .inl f_n))]) (w1 := [(a_t, .inr (6, [.int 6, .int 6, .ref a_n, .int e_n]))]) hP hD [0] [1] rfl rfl (by decide) (by decide) hk1 hFc hP1 hD1
    generalize H1 = H at hP hS ⊢
    have hP : va_P G.1 vwCl [(a_n, .inl (G.2 0, 36, .inl f_n)), (a_t, .inr (6, [.int 6, .int 6, .ref a_n, .int e_n]))] H := hP
    have hD : va_D A [(a_n, .inl (G.2 0, 36, .inl f_n)), (a_t, .inr (6, [.int 6, .int 6, .ref a_n, .int e_n]))] := hD
    refine lv_if_eq (tgt := 9) hx hb dX6_open_4 (by decide) (fun c_4 => ?_) (fun c_4 => ?_)
    ·
      refine lv_aload_n hx hb dX6_open_9 rfl (lv_at hl 0 rfl) ?_
      refine va_get (D := G.1) (ci := 6) (v := .int e_n) (C := RX6) (T := TX6) (N := 4) hx hb hts inG_X6 hown hK hP 1 rfl rfl 3 (by decide) (hts _ fl_X6_9) (fun _ h9 => h9) rfl dX6_open_10 ?_
      refine lv_istore_n (lv' := [(2, .int e_n), (0, .ref a_t), (1, .int p_v)]) hx hb dX6_open_13 rfl hl (by decide) rfl (fun ls hl => ?_)
      refine lv_aload_n hx hb dX6_open_14 rfl (lv_at hl 1 rfl) ?_
      refine lv_dup hx hb dX6_open_15 rfl ?_
      refine va_get (D := G.1) (ci := 6) (v := .int e_n) (C := RX6) (T := TX6) (N := 4) hx hb hts inG_X6 hown hK hP 1 rfl rfl 3 (by decide) (hts _ fl_X6_9) (fun _ h9 => h9) rfl dX6_open_16 ?_
      refine lv_iconst (v := 1) hx hb dX6_open_19 (by decide) ?_
      refine lv_iadd hx hb dX6_open_20 ?_
      have t_5 : (e_n + 1).toInt = e_n.toInt + 1 := g5_iadd (a := e_n.toInt) (b := 1) (by rfl) (by decide) (by omega) (by omega)
      refine va_put (D := G.1) (ci := 6) (v := .int (e_n + 1)) (ty := .int) (C := RX6) (T := TX6) (N := 4) hx hb hts inG_X6 tyX6 tyX6_ok nmX6 hown hK hP hD hS 1 rfl rfl 3 (by decide) (hts _ fl_X6_9) (fun _ h9 => h9) rfl (by decide +kernel) rfl rfl (Nat.le_of_ble_eq_true rfl) dX6_open_21 (fun H locs hP hD hS => ?_)
      have hP : va_P G.1 vwCl [(a_n, .inl (G.2 0, 36, .inl f_n)), (a_t, .inr (6, [.int 6, .int 6, .ref a_n, .int (e_n + 1)]))] H := hP
      have hD : va_D A [(a_n, .inl (G.2 0, 36, .inl f_n)), (a_t, .inr (6, [.int 6, .int 6, .ref a_n, .int (e_n + 1)]))] := hD
      refine lv_iconst (v := 0) hx hb dX6_open_24 (by decide) ?_
      refine lv_istore_n (lv' := [(3, .int 0), (2, .int e_n), (0, .ref a_t), (1, .int p_v)]) hx hb dX6_open_25 rfl hl (by decide) rfl (fun ls hl => ?_)
      refine g5_loop (α := (Int32) × (Nat → Int32)) (fun (q : (Int32) × (Nat → Int32)) (ls : Array Slot) (H : Heap) (locs : List Loc) => match q with | (k_c, k_f) => lv_has ls 4 [(3, .int k_c), (2, .int e_n), (0, .ref a_t), (1, .int p_v)] ∧ va_P G.1 vwCl [(a_n, .inl (G.2 0, 36, .inl k_f)), (a_t, .inr (6, [.int 6, .int 6, .ref a_n, .int (e_n + 1)]))] H ∧ va_D A [(a_n, .inl (G.2 0, 36, .inl k_f)), (a_t, .inr (6, [.int 6, .int 6, .ref a_n, .int (e_n + 1)]))] ∧ va_S A s.heap H locs ∧ (0 ≤ k_c.toInt ∧ k_c.toInt ≤ 6) ∧ (k_f = tfil f_n e_n.toInt 6 p_v k_c.toInt)) (fun (q : (Int32) × (Nat → Int32)) => match q with | (k_c, k_f) => Int.toNat (6 - k_c.toInt)) (0, f_n) ⟨lv_sub hl [0, 1, 2, 3] rfl, hP, hD, hS, ⟨by decide, by decide⟩, qt_fil0⟩ ?_
      rintro ⟨k_c, k_f⟩ ls H locs ⟨hl, hP, hD, hS, i_6, i_7⟩ ih_26_8
      have hl : lv_has ls 4 [(3, .int k_c), (2, .int e_n), (0, .ref a_t), (1, .int p_v)] := hl
      have i_6 : 0 ≤ k_c.toInt ∧ k_c.toInt ≤ 6 := i_6
      have i_7 : k_f = tfil f_n e_n.toInt 6 p_v k_c.toInt := i_7
      have hP : va_P G.1 vwCl [(a_n, .inl (G.2 0, 36, .inl k_f)), (a_t, .inr (6, [.int 6, .int 6, .ref a_n, .int (e_n + 1)]))] H := hP
      have hD : va_D A [(a_n, .inl (G.2 0, 36, .inl k_f)), (a_t, .inr (6, [.int 6, .int 6, .ref a_n, .int (e_n + 1)]))] := hD
      refine lv_iload_n hx hb dX6_open_26 rfl (lv_at hl 0 rfl) ?_
      refine lv_aload_n hx hb dX6_open_27 rfl (lv_at hl 2 rfl) ?_
      refine va_get (D := G.1) (ci := 6) (v := .int 6) (C := RX6) (T := TX6) (N := 4) hx hb hts inG_X6 hown hK hP 1 rfl rfl 1 (by decide) (hts _ fl_X6_18) (fun _ h9 => h9) rfl dX6_open_28 ?_
      refine lv_icmp_ge (tgt := 47) hx hb dX6_open_31 (by decide) (fun c_9 => ?_) (fun c_9 => ?_)
      ·
        have i_9 : k_c.toInt ≥ 6 := by have z := g5_ge (a := k_c.toInt) (b := 6) (by rfl) (by decide) c_9; omega
        refine lv_iload_n hx hb dX6_open_47 rfl (lv_at hl 1 rfl) ?_
        exact W.iret (v := e_n) hx hb hr (fun t ht hW => ⟨⟨e_n, [(a_t, .inr (6, [.int 6, .int 6, .ref a_n, .int (e_n + 1)])), (a_n, .inl (G.2 0, 36, .inl k_f))], rfl, Or.inr (⟨k_f, by omega, by omega, by rw [i_7, show k_c.toInt = 6 by omega], rfl, rfl⟩), by rw [ht]; exact hP.sub [1, 0] rfl, hD.sub [1, 0] (by decide) rfl⟩, hS.F ht⟩) hS.2.2 dX6_open_48
      ·
        have i_9 : k_c.toInt < 6 := by have z := g5_geN (a := k_c.toInt) (b := 6) (by rfl) (by decide) c_9; omega
        refine lv_aload_n hx hb dX6_open_34 rfl (lv_at hl 2 rfl) ?_
        refine lv_iload_n hx hb dX6_open_35 rfl (lv_at hl 1 rfl) ?_
        refine lv_iload_n hx hb dX6_open_36 rfl (lv_at hl 0 rfl) ?_
        refine lv_iload_n hx hb dX6_open_37 rfl (lv_at hl 3 rfl) ?_
        have hPc := hP.sub (ws' := [(a_t, .inr (6, [.int 6, .int 6, .ref a_n, .int (e_n + 1)])), (a_n, .inl (G.2 0, 36, .inl k_f))]) [1, 0] rfl
        have hDc := hD.sub (ws' := [(a_t, .inr (6, [.int 6, .int 6, .ref a_n, .int (e_n + 1)])), (a_n, .inl (G.2 0, 36, .inl k_f))]) [1, 0] (by decide) rfl
        have hFc := va_free (wc := [(a_t, .inr (6, [.int 6, .int 6, .ref a_n, .int (e_n + 1)])), (a_n, .inl (G.2 0, 36, .inl k_f))]) hD hS hA [1, 0] rfl
        refine va_callv (va_runV (As := [.int e_n, .int k_c, .int p_v]) (rest := []) ⟨hx, hb, hml, hown, hts⟩ (t_set_W l G a_t a_n H.size (e_n + 1) e_n k_c p_v k_f ⟨by omega, by omega⟩) (cwV 3 hts gV_X6_29 rfl rfl rfl hv_X6_set ⟨Nat.le_of_ble_eq_true rfl, Nat.le_of_ble_eq_true rfl⟩) (g5_preV hPc hK hDc hN hT hS hFc (ci := 6) (q0 := 0) rfl rfl) rfl rfl hl.1 rfl (lv_room (Nat.le_of_ble_eq_true rfl)) dX6_open_38 ⟨Nat.le_of_ble_eq_true rfl, Nat.le_of_ble_eq_true rfl⟩) hS (fun q _ h => hFc q h) hFc (fun u t H1 locs ht hvm hw hB hz1 hk1 hS => ?_)
        obtain ⟨hP1, hD1⟩ := hB
        rw [ht] at hP1
        obtain ⟨z11, i_10, rfl⟩ := hw
        have i_10 : z11 = tset k_f (e_n + 1).toInt 6 e_n.toInt k_c.toInt p_v := i_10
        obtain ⟨hP, hD⟩ := va_join (wr := []) (w1 := [(a_t, .inr (6, [.int 6, .int 6, .ref a_n, .int (e_n + 1)])), (a_n, .inl (G.2 0, 36, .inl z11))]) hP hD [1, 0] [] rfl rfl (by decide) (by decide) hk1 hFc hP1 hD1
        generalize H1 = H at hP hS ⊢
        have hP : va_P G.1 vwCl [(a_t, .inr (6, [.int 6, .int 6, .ref a_n, .int (e_n + 1)])), (a_n, .inl (G.2 0, 36, .inl z11))] H := hP
        have hD : va_D A [(a_t, .inr (6, [.int 6, .int 6, .ref a_n, .int (e_n + 1)])), (a_n, .inl (G.2 0, 36, .inl z11))] := hD
        refine lv_iinc (v := (k_c + 1)) (lv' := [(3, .int (k_c + 1)), (2, .int e_n), (0, .ref a_t), (1, .int p_v)]) hx hb dX6_open_41 hl (k := 0) rfl rfl (by decide) rfl (fun ls hl => ?_)
        have t_12 : (k_c + 1).toInt = k_c.toInt + 1 := g5_iadd (a := k_c.toInt) (b := 1) rfl (by decide) (by omega) (by omega)
        refine lv_goto (tgt := 26) hx hb dX6_open_44 (by decide) ?_
        exact ih_26_8 ((k_c + 1), z11) ls H locs (show Int.toNat (6 - (k_c + 1).toInt) < Int.toNat (6 - k_c.toInt) from g_up (show k_c.toInt < (k_c + 1).toInt by omega) (show k_c.toInt < 6 by omega)) ⟨lv_sub hl [0, 1, 2, 3] rfl, hP.sub [1, 0] rfl, hD.sub [1, 0] (by decide) rfl, hS, ⟨by omega, by omega⟩, i_10.trans (qt_filS i_7 (by omega) (by omega) (by omega) (by omega) (by omega))⟩
    ·
      exact absurd c_4 (by decide)
set_option maxHeartbeats 4000000 in
set_option maxRecDepth 100000 in
theorem t_find_W (l : Launch) (G : g5_G) (a_t a_n : Nat) (sz : Nat) (e_n : Int32) (p_c : Int32) (p_v : Int32) (f_n : Nat → Int32) (h_e_n : 0 ≤ e_n.toInt ∧ e_n.toInt ≤ 6) : Met l yX6_find (wsG yX6_find cX6_find 4 (some .int)) ({ frames := 1, cells := 0, slots := 0, locals := 22 }) (va_Pc [.ref a_t, .int p_c, .int p_v] (g5_P G [(a_t, .inr (6, [.int 6, .int 6, .ref a_n, .int e_n])), (a_n, .inl (G.2 0, 36, .inl f_n))] sz)) (va_Qi (fun (r : Int32) (u : va_W) => ((∀ r : Int, 0 ≤ r → r < e_n.toInt → tget f_n e_n.toInt 6 r p_c.toInt ≠ p_v) ∧ (r = (-1)) ∧ (u = [(a_t, .inr (6, [.int 6, .int 6, .ref a_n, .int e_n])), (a_n, .inl (G.2 0, 36, .inl f_n))])) ∨ (∃ (o_r : Int32), (0 ≤ o_r.toInt ∧ o_r.toInt < e_n.toInt) ∧ (tget f_n e_n.toInt 6 o_r.toInt p_c.toInt = p_v) ∧ (r = o_r) ∧ (u = [(a_t, .inr (6, [.int 6, .int 6, .ref a_n, .int e_n])), (a_n, .inl (G.2 0, 36, .inl f_n))]))) (g5_B G (va_A [(a_t, .inr (6, [.int 6, .int 6, .ref a_n, .int e_n])), (a_n, .inl (G.2 0, 36, .inl f_n))] sz)) (va_A [(a_t, .inr (6, [.int 6, .int 6, .ref a_n, .int e_n])), (a_n, .inl (G.2 0, 36, .inl f_n))] sz)) 0 0 (va_A [(a_t, .inr (6, [.int 6, .int 6, .ref a_n, .int e_n])), (a_n, .inl (G.2 0, 36, .inl f_n))] sz) := by
  refine Met.ofW (cc := cX6_find) (maxL := 4) (ret := (some .int)) (by decide) rfl ?_
  intro p e s m args below meth c s₁ B hml hv
  obtain ⟨rfl, hsz, hP, hK, hD0, hN, hT⟩ := hv
  have hx := B.exec
  have hb := B.bytes
  have hr := B.returns
  have hts : ∀ w ∈ tblG, w.before _ s = true := fun w h => atoms_spec (ws := (wsG yX6_find cX6_find 4 (some .int))) B.pre w (List.mem_cons_of_mem _ h)
  have hown : s.vm.findClass RX6 = some m.cls := findClass_of_methodNamed B.named
  have hlocks := B.notSynchronized
  subst hsz
  have hD := hD0.self (sz := s.heap.size)
  generalize hAe : va_A [(a_t, .inr (6, [.int 6, .int 6, .ref a_n, .int e_n])), (a_n, .inl (G.2 0, 36, .inl f_n))] s.heap.size = A at hD hT ⊢
  have hA : ∀ q : Nat, s.heap.size ≤ q → A q := fun q h => by rw [← hAe]; exact Or.inr h
  have hS : va_S A s.heap s.heap [] := va_S.rf
  have hP : va_P G.1 vwCl [(a_t, .inr (6, [.int 6, .int 6, .ref a_n, .int e_n])), (a_n, .inl (G.2 0, 36, .inl f_n))] s.heap := hP
  have hl := lv_entry ([.ref a_t, .int p_c, .int p_v]) (n := 4) (Nat.le_of_ble_eq_true rfl)
  rw [lg_entry_eq]
  generalize (lg_sl ([.ref a_t, .int p_c, .int p_v]) ++ List.replicate (4 - (lg_sl ([.ref a_t, .int p_c, .int p_v])).length) Slot.unset).toArray = ls at hl ⊢
  have hl : lv_has ls 4 [(0, .ref a_t), (1, .int p_c), (2, .int p_v)] := hl
  refine lv_iconst (v := 0) hx hb dX6_find_0 (by decide) ?_
  refine lv_istore_n (lv' := [(3, .int 0), (0, .ref a_t), (1, .int p_c), (2, .int p_v)]) hx hb dX6_find_1 rfl hl (by decide) rfl (fun ls hl => ?_)
  refine g5_loop (α := (Int32)) (fun (k_r : (Int32)) (ls : Array Slot) (H : Heap) (locs : List Loc) => lv_has ls 4 [(3, .int k_r), (0, .ref a_t), (1, .int p_c), (2, .int p_v)] ∧ va_P G.1 vwCl [(a_t, .inr (6, [.int 6, .int 6, .ref a_n, .int e_n])), (a_n, .inl (G.2 0, 36, .inl f_n))] H ∧ va_D A [(a_t, .inr (6, [.int 6, .int 6, .ref a_n, .int e_n])), (a_n, .inl (G.2 0, 36, .inl f_n))] ∧ va_S A s.heap H locs ∧ (0 ≤ k_r.toInt ∧ k_r.toInt ≤ 6) ∧ (k_r.toInt ≤ e_n.toInt) ∧ (∀ r : Int, 0 ≤ r → r < k_r.toInt → tget f_n e_n.toInt 6 r p_c.toInt ≠ p_v)) (fun (k_r : (Int32)) => Int.toNat (6 - k_r.toInt)) 0 ⟨lv_sub hl [0, 1, 2, 3] rfl, hP, hD, hS, ⟨by decide, by decide⟩, by have z0 : (0 : Int32).toInt = 0 := (by decide); omega, fun r h1 h2 => absurd h2 (by have z : (0 : Int32).toInt = 0 := (by decide); omega)⟩ ?_
  rintro k_r ls H locs ⟨hl, hP, hD, hS, i_1, i_2, i_3⟩ ih_2_4
  have hl : lv_has ls 4 [(3, .int k_r), (0, .ref a_t), (1, .int p_c), (2, .int p_v)] := hl
  have i_1 : 0 ≤ k_r.toInt ∧ k_r.toInt ≤ 6 := i_1
  have i_2 : k_r.toInt ≤ e_n.toInt := i_2
  have i_3 : ∀ r : Int, 0 ≤ r → r < k_r.toInt → tget f_n e_n.toInt 6 r p_c.toInt ≠ p_v := i_3
  have hP : va_P G.1 vwCl [(a_t, .inr (6, [.int 6, .int 6, .ref a_n, .int e_n])), (a_n, .inl (G.2 0, 36, .inl f_n))] H := hP
  have hD : va_D A [(a_t, .inr (6, [.int 6, .int 6, .ref a_n, .int e_n])), (a_n, .inl (G.2 0, 36, .inl f_n))] := hD
  refine lv_iload_n hx hb dX6_find_2 rfl (lv_at hl 0 rfl) ?_
  refine lv_aload_n hx hb dX6_find_3 rfl (lv_at hl 1 rfl) ?_
  refine va_get (D := G.1) (ci := 6) (v := .int e_n) (C := RX6) (T := TX6) (N := 4) hx hb hts inG_X6 hown hK hP 0 rfl rfl 3 (by decide) (hts _ fl_X6_9) (fun _ h9 => h9) rfl dX6_find_4 ?_
  refine lv_icmp_ge (tgt := 28) hx hb dX6_find_7 (by decide) (fun c_5 => ?_) (fun c_5 => ?_)
  ·
    have i_5 : k_r.toInt ≥ e_n.toInt := by have z := g5_ge (a := k_r.toInt) (b := e_n.toInt) (by rfl) (by rfl) c_5; omega
    refine lv_iconst (v := (-1)) hx hb dX6_find_28 (by decide) ?_
    exact W.iret (v := (-1)) hx hb hr (fun t ht hW => ⟨⟨(-1), [(a_t, .inr (6, [.int 6, .int 6, .ref a_n, .int e_n])), (a_n, .inl (G.2 0, 36, .inl f_n))], rfl, Or.inl (⟨fun r h1 h2 => i_3 r h1 (by omega), rfl, rfl⟩), by rw [ht]; exact hP.sub [0, 1] rfl, hD.sub [0, 1] (by decide) rfl⟩, hS.F ht⟩) hS.2.2 dX6_find_29
  ·
    have i_5 : k_r.toInt < e_n.toInt := by have z := g5_geN (a := k_r.toInt) (b := e_n.toInt) (by rfl) (by rfl) c_5; omega
    refine lv_aload_n hx hb dX6_find_10 rfl (lv_at hl 1 rfl) ?_
    refine lv_iload_n hx hb dX6_find_11 rfl (lv_at hl 0 rfl) ?_
    refine lv_iload_n hx hb dX6_find_12 rfl (lv_at hl 2 rfl) ?_
    have hPc := hP.sub (ws' := [(a_t, .inr (6, [.int 6, .int 6, .ref a_n, .int e_n])), (a_n, .inl (G.2 0, 36, .inl f_n))]) [0, 1] rfl
    have hDc := hD.sub (ws' := [(a_t, .inr (6, [.int 6, .int 6, .ref a_n, .int e_n])), (a_n, .inl (G.2 0, 36, .inl f_n))]) [0, 1] (by decide) rfl
    have hFc := va_free (wc := [(a_t, .inr (6, [.int 6, .int 6, .ref a_n, .int e_n])), (a_n, .inl (G.2 0, 36, .inl f_n))]) hD hS hA [0, 1] rfl
    refine va_calli (va_runV (As := [.int k_r, .int p_c]) (rest := []) ⟨hx, hb, hml, hown, hts⟩ (t_get_W l G a_t a_n H.size e_n k_r p_c f_n ⟨by omega, by omega⟩) (cwV 2 hts gV_X6_43 rfl rfl rfl hv_X6_get ⟨Nat.le_of_ble_eq_true rfl, Nat.le_of_ble_eq_true rfl⟩) (g5_preV hPc hK hDc hN hT hS hFc (ci := 6) (q0 := 0) rfl rfl) rfl rfl hl.1 rfl (lv_room (Nat.le_of_ble_eq_true rfl)) dX6_find_13 ⟨Nat.le_of_ble_eq_true rfl, Nat.le_of_ble_eq_true rfl⟩) hS (fun q _ h => hFc q h) hFc (fun r u t H1 locs ht hvm hw hB hz1 hk1 hS => ?_)
    obtain ⟨hP1, hD1⟩ := hB
    rw [ht] at hP1
    obtain ⟨z7, i_6, y8, rfl⟩ := hw
    have i_6 : z7 = tget f_n e_n.toInt 6 k_r.toInt p_c.toInt := i_6
    obtain ⟨hP, hD⟩ := va_join (wr := []) (w1 := [(a_t, .inr (6, [.int 6, .int 6, .ref a_n, .int e_n])), (a_n, .inl (G.2 0, 36, .inl f_n))]) hP hD [0, 1] [] rfl rfl (by decide) (by decide) hk1 hFc hP1 hD1
    generalize H1 = H at hP hS ⊢
    have hP : va_P G.1 vwCl [(a_t, .inr (6, [.int 6, .int 6, .ref a_n, .int e_n])), (a_n, .inl (G.2 0, 36, .inl f_n))] H := hP
    have hD : va_D A [(a_t, .inr (6, [.int 6, .int 6, .ref a_n, .int e_n])), (a_n, .inl (G.2 0, 36, .inl f_n))] := hD
    refine g5_ti (v := z7) y8 ?_
    refine lv_iload_n hx hb dX6_find_16 rfl (lv_at hl 3 rfl) ?_
    refine lv_icmp_ne (tgt := 22) hx hb dX6_find_17 (by decide) (fun c_9 => ?_) (fun c_9 => ?_)
    ·
      have n_9 : gNe (z7.toInt) (p_v.toInt) := by have z := g5_ne (a := z7.toInt) (b := p_v.toInt) (by rfl) (by rfl) c_9; unfold gNe; omega
      refine lv_iinc (v := (k_r + 1)) (lv' := [(3, .int (k_r + 1)), (0, .ref a_t), (1, .int p_c), (2, .int p_v)]) hx hb dX6_find_22 hl (k := 0) rfl rfl (by decide) rfl (fun ls hl => ?_)
      have t_10 : (k_r + 1).toInt = k_r.toInt + 1 := g5_iadd (a := k_r.toInt) (b := 1) rfl (by decide) (by omega) (by omega)
      refine lv_goto (tgt := 2) hx hb dX6_find_25 (by decide) ?_
      exact ih_2_4 (k_r + 1) ls H locs (show Int.toNat (6 - (k_r + 1).toInt) < Int.toNat (6 - k_r.toInt) from g_up (show k_r.toInt < (k_r + 1).toInt by omega) (show k_r.toInt < 6 by omega)) ⟨lv_sub hl [0, 1, 2, 3] rfl, hP, hD, hS, ⟨by omega, by omega⟩, by omega, fun r h1 h2 => by rcases (show r < k_r.toInt ∨ r = k_r.toInt by omega) with q | q; exact i_3 r h1 q; rw [q, ← i_6]; intro q2; rw [q2] at n_9; exact absurd rfl n_9⟩
    ·
      have i_9 : z7.toInt = p_v.toInt := by have z := g5_neN (a := z7.toInt) (b := p_v.toInt) (by rfl) (by rfl) c_9; omega
      refine lv_iload_n hx hb dX6_find_20 rfl (lv_at hl 0 rfl) ?_
      exact W.iret (v := k_r) hx hb hr (fun t ht hW => ⟨⟨k_r, [(a_t, .inr (6, [.int 6, .int 6, .ref a_n, .int e_n])), (a_n, .inl (G.2 0, 36, .inl f_n))], rfl, Or.inr (⟨k_r, ⟨by omega, by omega⟩, by rw [← i_6]; exact Int32.toInt_inj.mp (by omega), rfl, rfl⟩), by rw [ht]; exact hP.sub [0, 1] rfl, hD.sub [0, 1] (by decide) rfl⟩, hS.F ht⟩) hS.2.2 dX6_find_21
theorem dX6_copyFrom_0 : decode cX6_copyFrom 0 = .ok (.aload_n 1, 1) := by decide +kernel
theorem dX6_copyFrom_1 : decode cX6_copyFrom 1 = .ok (.getfield 21, 3) := by decide +kernel
theorem dX6_copyFrom_4 : decode cX6_copyFrom 4 = .ok (.arraylength, 1) := by decide +kernel
theorem dX6_copyFrom_5 : decode cX6_copyFrom 5 = .ok (.aload_n 0, 1) := by decide +kernel
theorem dX6_copyFrom_6 : decode cX6_copyFrom 6 = .ok (.getfield 21, 3) := by decide +kernel
theorem dX6_copyFrom_9 : decode cX6_copyFrom 9 = .ok (.arraylength, 1) := by decide +kernel
theorem dX6_copyFrom_10 : decode cX6_copyFrom 10 = .ok (.if_icmp .ne 29, 3) := by decide +kernel
theorem dX6_copyFrom_13 : decode cX6_copyFrom 13 = .ok (.aload_n 1, 1) := by decide +kernel
theorem dX6_copyFrom_14 : decode cX6_copyFrom 14 = .ok (.getfield 21, 3) := by decide +kernel
theorem dX6_copyFrom_17 : decode cX6_copyFrom 17 = .ok (.iconst 0, 1) := by decide +kernel
theorem dX6_copyFrom_18 : decode cX6_copyFrom 18 = .ok (.aload_n 0, 1) := by decide +kernel
theorem dX6_copyFrom_19 : decode cX6_copyFrom 19 = .ok (.getfield 21, 3) := by decide +kernel
theorem dX6_copyFrom_22 : decode cX6_copyFrom 22 = .ok (.iconst 0, 1) := by decide +kernel
theorem dX6_copyFrom_23 : decode cX6_copyFrom 23 = .ok (.aload_n 0, 1) := by decide +kernel
theorem dX6_copyFrom_24 : decode cX6_copyFrom 24 = .ok (.getfield 21, 3) := by decide +kernel
theorem dX6_copyFrom_27 : decode cX6_copyFrom 27 = .ok (.arraylength, 1) := by decide +kernel
theorem dX6_copyFrom_28 : decode cX6_copyFrom 28 = .ok (.invokestatic 37, 3) := by decide +kernel
theorem dX6_copyFrom_31 : decode cX6_copyFrom 31 = .ok (.aload_n 0, 1) := by decide +kernel
theorem dX6_copyFrom_32 : decode cX6_copyFrom 32 = .ok (.aload_n 1, 1) := by decide +kernel
theorem dX6_copyFrom_33 : decode cX6_copyFrom 33 = .ok (.getfield 9, 3) := by decide +kernel
theorem dX6_copyFrom_36 : decode cX6_copyFrom 36 = .ok (.putfield 9, 3) := by decide +kernel
theorem dX6_copyFrom_39 : decode cX6_copyFrom 39 = .ok (.return_, 1) := by decide +kernel
theorem ml_X6_37 : Cond.methodLink RX6 37 arraycopyName ∈ tblG := tg 946 (by decide +kernel) (by decide +kernel)
theorem ac_nat : Cond.native arraycopyName ∈ tblG := tg 773 (by decide +kernel) (by decide +kernel)
theorem ac_st : Cond.static arraycopyName ∈ tblG := tg 772 (by decide +kernel) (by decide +kernel)
theorem ac_ini : Cond.initialized "java/lang/System" ∈ tblG := tg 107 (by decide +kernel) (by decide +kernel)
set_option maxHeartbeats 4000000 in
set_option maxRecDepth 100000 in
theorem t_copyFrom_G (l : Launch) (G : g5_G) (a_t a_n a_o a_on : Nat) (sz : Nat) (e_n : Int32) (e_o : Int32) (f_n : Nat → Int32) (f_o : Nat → Int32) (h_e_n : 0 ≤ e_n.toInt ∧ e_n.toInt ≤ 6) (h_e_o : 0 ≤ e_o.toInt ∧ e_o.toInt ≤ 6) : Met l yX6_copyFrom (wsG yX6_copyFrom cX6_copyFrom 2 none) ({ frames := 1, cells := 0, slots := 0, locals := 60 }) (va_Pc [.ref a_t, .ref a_o] (g5_P G [(a_t, .inr (6, [.int 6, .int 5, .ref a_n, .int e_n])), (a_n, .inl (G.2 0, 30, .inl f_n)), (a_o, .inr (6, [.int 6, .int 5, .ref a_on, .int e_o])), (a_on, .inl (G.2 0, 30, .inl f_o))] sz)) (va_Qv (fun (u : va_W) => ((u = [(a_t, .inr (6, [.int 6, .int 5, .ref a_n, .int e_o])), (a_n, .inl (G.2 0, 30, .inl (va_cpy f_o f_n 0 0 30))), (a_o, .inr (6, [.int 6, .int 5, .ref a_on, .int e_o])), (a_on, .inl (G.2 0, 30, .inl f_o))]))) (g5_B G (va_A [(a_t, .inr (6, [.int 6, .int 5, .ref a_n, .int e_n])), (a_n, .inl (G.2 0, 30, .inl f_n)), (a_o, .inr (6, [.int 6, .int 5, .ref a_on, .int e_o])), (a_on, .inl (G.2 0, 30, .inl f_o))] sz)) (va_A [(a_t, .inr (6, [.int 6, .int 5, .ref a_n, .int e_n])), (a_n, .inl (G.2 0, 30, .inl f_n)), (a_o, .inr (6, [.int 6, .int 5, .ref a_on, .int e_o])), (a_on, .inl (G.2 0, 30, .inl f_o))] sz)) 0 0 (va_A [(a_t, .inr (6, [.int 6, .int 5, .ref a_n, .int e_n])), (a_n, .inl (G.2 0, 30, .inl f_n)), (a_o, .inr (6, [.int 6, .int 5, .ref a_on, .int e_o])), (a_on, .inl (G.2 0, 30, .inl f_o))] sz) := by
  refine Met.ofW (cc := cX6_copyFrom) (maxL := 2) (ret := none) (by decide) rfl ?_
  intro p e s m args below meth c s₁ B hml hv
  obtain ⟨rfl, hsz, hP, hK, hD0, hN, hT⟩ := hv
  have hx := B.exec
  have hb := B.bytes
  have hr := B.returns
  have hts : ∀ w ∈ tblG, w.before _ s = true := fun w h => atoms_spec (ws := (wsG yX6_copyFrom cX6_copyFrom 2 none)) B.pre w (List.mem_cons_of_mem _ h)
  have hown : s.vm.findClass RX6 = some m.cls := findClass_of_methodNamed B.named
  have hlocks := B.notSynchronized
  subst hsz
  have hD := hD0.self (sz := s.heap.size)
  generalize hAe : va_A [(a_t, .inr (6, [.int 6, .int 5, .ref a_n, .int e_n])), (a_n, .inl (G.2 0, 30, .inl f_n)), (a_o, .inr (6, [.int 6, .int 5, .ref a_on, .int e_o])), (a_on, .inl (G.2 0, 30, .inl f_o))] s.heap.size = A at hD hT ⊢
  have hA : ∀ q : Nat, s.heap.size ≤ q → A q := fun q h => by rw [← hAe]; exact Or.inr h
  have hS : va_S A s.heap s.heap [] := va_S.rf
  have hP : va_P G.1 vwCl [(a_t, .inr (6, [.int 6, .int 5, .ref a_n, .int e_n])), (a_n, .inl (G.2 0, 30, .inl f_n)), (a_o, .inr (6, [.int 6, .int 5, .ref a_on, .int e_o])), (a_on, .inl (G.2 0, 30, .inl f_o))] s.heap := hP
  have hl := lv_entry ([.ref a_t, .ref a_o]) (n := 2) (Nat.le_of_ble_eq_true rfl)
  rw [lg_entry_eq]
  generalize (lg_sl ([.ref a_t, .ref a_o]) ++ List.replicate (2 - (lg_sl ([.ref a_t, .ref a_o])).length) Slot.unset).toArray = ls at hl ⊢
  have hl : lv_has ls 2 [(0, .ref a_t), (1, .ref a_o)] := hl
  refine lv_aload_n hx hb dX6_copyFrom_0 rfl (lv_at hl 1 rfl) ?_
  refine va_get (D := G.1) (ci := 6) (v := .ref a_on) (C := RX6) (T := TX6) (N := 4) hx hb hts inG_X6 hown hK hP 2 rfl rfl 2 (by decide) (hts _ fl_X6_21) (fun _ h9 => h9) rfl dX6_copyFrom_1 ?_
  refine va_alen hx hb hK hP 3 0 rfl rfl (v := 30) (by show Int32.ofNat 30 = 30; decide) dX6_copyFrom_4 ?_
  refine lv_aload_n hx hb dX6_copyFrom_5 rfl (lv_at hl 0 rfl) ?_
  refine va_get (D := G.1) (ci := 6) (v := .ref a_n) (C := RX6) (T := TX6) (N := 4) hx hb hts inG_X6 hown hK hP 0 rfl rfl 2 (by decide) (hts _ fl_X6_21) (fun _ h9 => h9) rfl dX6_copyFrom_6 ?_
  refine va_alen hx hb hK hP 1 0 rfl rfl (v := 30) (by show Int32.ofNat 30 = 30; decide) dX6_copyFrom_9 ?_
  refine lv_icmp_ne (tgt := 39) hx hb dX6_copyFrom_10 (by decide) (fun c_1 => ?_) (fun c_1 => ?_)
  ·
    exact absurd c_1 (by decide)
  ·
    refine lv_aload_n hx hb dX6_copyFrom_13 rfl (lv_at hl 1 rfl) ?_
    refine va_get (D := G.1) (ci := 6) (v := .ref a_on) (C := RX6) (T := TX6) (N := 4) hx hb hts inG_X6 hown hK hP 2 rfl rfl 2 (by decide) (hts _ fl_X6_21) (fun _ h9 => h9) rfl dX6_copyFrom_14 ?_
    refine lv_iconst (v := 0) hx hb dX6_copyFrom_17 (by decide) ?_
    refine lv_aload_n hx hb dX6_copyFrom_18 rfl (lv_at hl 0 rfl) ?_
    refine va_get (D := G.1) (ci := 6) (v := .ref a_n) (C := RX6) (T := TX6) (N := 4) hx hb hts inG_X6 hown hK hP 0 rfl rfl 2 (by decide) (hts _ fl_X6_21) (fun _ h9 => h9) rfl dX6_copyFrom_19 ?_
    refine lv_iconst (v := 0) hx hb dX6_copyFrom_22 (by decide) ?_
    refine lv_aload_n hx hb dX6_copyFrom_23 rfl (lv_at hl 0 rfl) ?_
    refine va_get (D := G.1) (ci := 6) (v := .ref a_n) (C := RX6) (T := TX6) (N := 4) hx hb hts inG_X6 hown hK hP 0 rfl rfl 2 (by decide) (hts _ fl_X6_21) (fun _ h9 => h9) rfl dX6_copyFrom_24 ?_
    refine va_alen hx hb hK hP 1 0 rfl rfl (v := 30) (by show Int32.ofNat 30 = 30; decide) dX6_copyFrom_27 ?_
    refine va_copyi hx hb (hml.trans hl.1.symm) hown (hts _ ml_X6_37) (hts _ ac_nat) (hts _ ac_st) (hts _ ac_ini) hK hP hD hS 3 1 0 0 rfl rfl rfl rfl rfl (sp := 0) (dp := 0) (n := 30) (by decide) (by decide) (by decide) (by decide) (by decide) (fun _ _ => rfl) (Nat.le_of_ble_eq_true rfl) (by decide) dX6_copyFrom_28 (fun H locs hP hD hS => ?_)
    have hP : va_P G.1 vwCl [(a_t, .inr (6, [.int 6, .int 5, .ref a_n, .int e_n])), (a_n, .inl (G.2 0, 30, .inl (va_cpy f_o f_n 0 0 30))), (a_o, .inr (6, [.int 6, .int 5, .ref a_on, .int e_o])), (a_on, .inl (G.2 0, 30, .inl f_o))] H := hP
    have hD : va_D A [(a_t, .inr (6, [.int 6, .int 5, .ref a_n, .int e_n])), (a_n, .inl (G.2 0, 30, .inl (va_cpy f_o f_n 0 0 30))), (a_o, .inr (6, [.int 6, .int 5, .ref a_on, .int e_o])), (a_on, .inl (G.2 0, 30, .inl f_o))] := hD
    refine lv_aload_n hx hb dX6_copyFrom_31 rfl (lv_at hl 0 rfl) ?_
    refine lv_aload_n hx hb dX6_copyFrom_32 rfl (lv_at hl 1 rfl) ?_
    refine va_get (D := G.1) (ci := 6) (v := .int e_o) (C := RX6) (T := TX6) (N := 4) hx hb hts inG_X6 hown hK hP 2 rfl rfl 3 (by decide) (hts _ fl_X6_9) (fun _ h9 => h9) rfl dX6_copyFrom_33 ?_
    refine va_put (D := G.1) (ci := 6) (v := .int e_o) (ty := .int) (C := RX6) (T := TX6) (N := 4) hx hb hts inG_X6 tyX6 tyX6_ok nmX6 hown hK hP hD hS 0 rfl rfl 3 (by decide) (hts _ fl_X6_9) (fun _ h9 => h9) rfl (by decide +kernel) rfl rfl (Nat.le_of_ble_eq_true rfl) dX6_copyFrom_36 (fun H locs hP hD hS => ?_)
    have hP : va_P G.1 vwCl [(a_t, .inr (6, [.int 6, .int 5, .ref a_n, .int e_o])), (a_n, .inl (G.2 0, 30, .inl (va_cpy f_o f_n 0 0 30))), (a_o, .inr (6, [.int 6, .int 5, .ref a_on, .int e_o])), (a_on, .inl (G.2 0, 30, .inl f_o))] H := hP
    have hD : va_D A [(a_t, .inr (6, [.int 6, .int 5, .ref a_n, .int e_o])), (a_n, .inl (G.2 0, 30, .inl (va_cpy f_o f_n 0 0 30))), (a_o, .inr (6, [.int 6, .int 5, .ref a_on, .int e_o])), (a_on, .inl (G.2 0, 30, .inl f_o))] := hD
    exact W.vret hx hb hr (fun t ht hW => ⟨⟨[(a_t, .inr (6, [.int 6, .int 5, .ref a_n, .int e_o])), (a_n, .inl (G.2 0, 30, .inl (va_cpy f_o f_n 0 0 30))), (a_o, .inr (6, [.int 6, .int 5, .ref a_on, .int e_o])), (a_on, .inl (G.2 0, 30, .inl f_o))], rfl, rfl, by rw [ht]; exact hP.sub [0, 1, 2, 3] rfl, hD.sub [0, 1, 2, 3] (by decide) rfl⟩, hS.F ht⟩) hS.2.2 dX6_copyFrom_39
set_option maxHeartbeats 4000000 in
set_option maxRecDepth 100000 in
theorem t_copyFrom_B (l : Launch) (G : g5_G) (a_t a_n a_o a_on : Nat) (sz : Nat) (e_n : Int32) (e_o : Int32) (f_n : Nat → Int32) (f_o : Nat → Int32) (h_e_n : 0 ≤ e_n.toInt ∧ e_n.toInt ≤ 5) (h_e_o : 0 ≤ e_o.toInt ∧ e_o.toInt ≤ 5) : Met l yX6_copyFrom (wsG yX6_copyFrom cX6_copyFrom 2 none) ({ frames := 1, cells := 0, slots := 0, locals := 60 }) (va_Pc [.ref a_t, .ref a_o] (g5_P G [(a_t, .inr (6, [.int 5, .int 24, .ref a_n, .int e_n])), (a_n, .inl (G.2 0, 120, .inl f_n)), (a_o, .inr (6, [.int 5, .int 24, .ref a_on, .int e_o])), (a_on, .inl (G.2 0, 120, .inl f_o))] sz)) (va_Qv (fun (u : va_W) => ((u = [(a_t, .inr (6, [.int 5, .int 24, .ref a_n, .int e_o])), (a_n, .inl (G.2 0, 120, .inl (va_cpy f_o f_n 0 0 120))), (a_o, .inr (6, [.int 5, .int 24, .ref a_on, .int e_o])), (a_on, .inl (G.2 0, 120, .inl f_o))]))) (g5_B G (va_A [(a_t, .inr (6, [.int 5, .int 24, .ref a_n, .int e_n])), (a_n, .inl (G.2 0, 120, .inl f_n)), (a_o, .inr (6, [.int 5, .int 24, .ref a_on, .int e_o])), (a_on, .inl (G.2 0, 120, .inl f_o))] sz)) (va_A [(a_t, .inr (6, [.int 5, .int 24, .ref a_n, .int e_n])), (a_n, .inl (G.2 0, 120, .inl f_n)), (a_o, .inr (6, [.int 5, .int 24, .ref a_on, .int e_o])), (a_on, .inl (G.2 0, 120, .inl f_o))] sz)) 0 0 (va_A [(a_t, .inr (6, [.int 5, .int 24, .ref a_n, .int e_n])), (a_n, .inl (G.2 0, 120, .inl f_n)), (a_o, .inr (6, [.int 5, .int 24, .ref a_on, .int e_o])), (a_on, .inl (G.2 0, 120, .inl f_o))] sz) := by
  refine Met.ofW (cc := cX6_copyFrom) (maxL := 2) (ret := none) (by decide) rfl ?_
  intro p e s m args below meth c s₁ B hml hv
  obtain ⟨rfl, hsz, hP, hK, hD0, hN, hT⟩ := hv
  have hx := B.exec
  have hb := B.bytes
  have hr := B.returns
  have hts : ∀ w ∈ tblG, w.before _ s = true := fun w h => atoms_spec (ws := (wsG yX6_copyFrom cX6_copyFrom 2 none)) B.pre w (List.mem_cons_of_mem _ h)
  have hown : s.vm.findClass RX6 = some m.cls := findClass_of_methodNamed B.named
  have hlocks := B.notSynchronized
  subst hsz
  have hD := hD0.self (sz := s.heap.size)
  generalize hAe : va_A [(a_t, .inr (6, [.int 5, .int 24, .ref a_n, .int e_n])), (a_n, .inl (G.2 0, 120, .inl f_n)), (a_o, .inr (6, [.int 5, .int 24, .ref a_on, .int e_o])), (a_on, .inl (G.2 0, 120, .inl f_o))] s.heap.size = A at hD hT ⊢
  have hA : ∀ q : Nat, s.heap.size ≤ q → A q := fun q h => by rw [← hAe]; exact Or.inr h
  have hS : va_S A s.heap s.heap [] := va_S.rf
  have hP : va_P G.1 vwCl [(a_t, .inr (6, [.int 5, .int 24, .ref a_n, .int e_n])), (a_n, .inl (G.2 0, 120, .inl f_n)), (a_o, .inr (6, [.int 5, .int 24, .ref a_on, .int e_o])), (a_on, .inl (G.2 0, 120, .inl f_o))] s.heap := hP
  have hl := lv_entry ([.ref a_t, .ref a_o]) (n := 2) (Nat.le_of_ble_eq_true rfl)
  rw [lg_entry_eq]
  generalize (lg_sl ([.ref a_t, .ref a_o]) ++ List.replicate (2 - (lg_sl ([.ref a_t, .ref a_o])).length) Slot.unset).toArray = ls at hl ⊢
  have hl : lv_has ls 2 [(0, .ref a_t), (1, .ref a_o)] := hl
  refine lv_aload_n hx hb dX6_copyFrom_0 rfl (lv_at hl 1 rfl) ?_
  refine va_get (D := G.1) (ci := 6) (v := .ref a_on) (C := RX6) (T := TX6) (N := 4) hx hb hts inG_X6 hown hK hP 2 rfl rfl 2 (by decide) (hts _ fl_X6_21) (fun _ h9 => h9) rfl dX6_copyFrom_1 ?_
  refine va_alen hx hb hK hP 3 0 rfl rfl (v := 120) (by show Int32.ofNat 120 = 120; decide) dX6_copyFrom_4 ?_
  refine lv_aload_n hx hb dX6_copyFrom_5 rfl (lv_at hl 0 rfl) ?_
  refine va_get (D := G.1) (ci := 6) (v := .ref a_n) (C := RX6) (T := TX6) (N := 4) hx hb hts inG_X6 hown hK hP 0 rfl rfl 2 (by decide) (hts _ fl_X6_21) (fun _ h9 => h9) rfl dX6_copyFrom_6 ?_
  refine va_alen hx hb hK hP 1 0 rfl rfl (v := 120) (by show Int32.ofNat 120 = 120; decide) dX6_copyFrom_9 ?_
  refine lv_icmp_ne (tgt := 39) hx hb dX6_copyFrom_10 (by decide) (fun c_1 => ?_) (fun c_1 => ?_)
  ·
    exact absurd c_1 (by decide)
  ·
    refine lv_aload_n hx hb dX6_copyFrom_13 rfl (lv_at hl 1 rfl) ?_
    refine va_get (D := G.1) (ci := 6) (v := .ref a_on) (C := RX6) (T := TX6) (N := 4) hx hb hts inG_X6 hown hK hP 2 rfl rfl 2 (by decide) (hts _ fl_X6_21) (fun _ h9 => h9) rfl dX6_copyFrom_14 ?_
    refine lv_iconst (v := 0) hx hb dX6_copyFrom_17 (by decide) ?_
    refine lv_aload_n hx hb dX6_copyFrom_18 rfl (lv_at hl 0 rfl) ?_
    refine va_get (D := G.1) (ci := 6) (v := .ref a_n) (C := RX6) (T := TX6) (N := 4) hx hb hts inG_X6 hown hK hP 0 rfl rfl 2 (by decide) (hts _ fl_X6_21) (fun _ h9 => h9) rfl dX6_copyFrom_19 ?_
    refine lv_iconst (v := 0) hx hb dX6_copyFrom_22 (by decide) ?_
    refine lv_aload_n hx hb dX6_copyFrom_23 rfl (lv_at hl 0 rfl) ?_
    refine va_get (D := G.1) (ci := 6) (v := .ref a_n) (C := RX6) (T := TX6) (N := 4) hx hb hts inG_X6 hown hK hP 0 rfl rfl 2 (by decide) (hts _ fl_X6_21) (fun _ h9 => h9) rfl dX6_copyFrom_24 ?_
    refine va_alen hx hb hK hP 1 0 rfl rfl (v := 120) (by show Int32.ofNat 120 = 120; decide) dX6_copyFrom_27 ?_
    refine va_copyi hx hb (hml.trans hl.1.symm) hown (hts _ ml_X6_37) (hts _ ac_nat) (hts _ ac_st) (hts _ ac_ini) hK hP hD hS 3 1 0 0 rfl rfl rfl rfl rfl (sp := 0) (dp := 0) (n := 120) (by decide) (by decide) (by decide) (by decide) (by decide) (fun _ _ => rfl) (Nat.le_of_ble_eq_true rfl) (by decide) dX6_copyFrom_28 (fun H locs hP hD hS => ?_)
    have hP : va_P G.1 vwCl [(a_t, .inr (6, [.int 5, .int 24, .ref a_n, .int e_n])), (a_n, .inl (G.2 0, 120, .inl (va_cpy f_o f_n 0 0 120))), (a_o, .inr (6, [.int 5, .int 24, .ref a_on, .int e_o])), (a_on, .inl (G.2 0, 120, .inl f_o))] H := hP
    have hD : va_D A [(a_t, .inr (6, [.int 5, .int 24, .ref a_n, .int e_n])), (a_n, .inl (G.2 0, 120, .inl (va_cpy f_o f_n 0 0 120))), (a_o, .inr (6, [.int 5, .int 24, .ref a_on, .int e_o])), (a_on, .inl (G.2 0, 120, .inl f_o))] := hD
    refine lv_aload_n hx hb dX6_copyFrom_31 rfl (lv_at hl 0 rfl) ?_
    refine lv_aload_n hx hb dX6_copyFrom_32 rfl (lv_at hl 1 rfl) ?_
    refine va_get (D := G.1) (ci := 6) (v := .int e_o) (C := RX6) (T := TX6) (N := 4) hx hb hts inG_X6 hown hK hP 2 rfl rfl 3 (by decide) (hts _ fl_X6_9) (fun _ h9 => h9) rfl dX6_copyFrom_33 ?_
    refine va_put (D := G.1) (ci := 6) (v := .int e_o) (ty := .int) (C := RX6) (T := TX6) (N := 4) hx hb hts inG_X6 tyX6 tyX6_ok nmX6 hown hK hP hD hS 0 rfl rfl 3 (by decide) (hts _ fl_X6_9) (fun _ h9 => h9) rfl (by decide +kernel) rfl rfl (Nat.le_of_ble_eq_true rfl) dX6_copyFrom_36 (fun H locs hP hD hS => ?_)
    have hP : va_P G.1 vwCl [(a_t, .inr (6, [.int 5, .int 24, .ref a_n, .int e_o])), (a_n, .inl (G.2 0, 120, .inl (va_cpy f_o f_n 0 0 120))), (a_o, .inr (6, [.int 5, .int 24, .ref a_on, .int e_o])), (a_on, .inl (G.2 0, 120, .inl f_o))] H := hP
    have hD : va_D A [(a_t, .inr (6, [.int 5, .int 24, .ref a_n, .int e_o])), (a_n, .inl (G.2 0, 120, .inl (va_cpy f_o f_n 0 0 120))), (a_o, .inr (6, [.int 5, .int 24, .ref a_on, .int e_o])), (a_on, .inl (G.2 0, 120, .inl f_o))] := hD
    exact W.vret hx hb hr (fun t ht hW => ⟨⟨[(a_t, .inr (6, [.int 5, .int 24, .ref a_n, .int e_o])), (a_n, .inl (G.2 0, 120, .inl (va_cpy f_o f_n 0 0 120))), (a_o, .inr (6, [.int 5, .int 24, .ref a_on, .int e_o])), (a_on, .inl (G.2 0, 120, .inl f_o))], rfl, rfl, by rw [ht]; exact hP.sub [0, 1, 2, 3] rfl, hD.sub [0, 1, 2, 3] (by decide) rfl⟩, hS.F ht⟩) hS.2.2 dX6_copyFrom_39
theorem dX6_remove_0 : decode cX6_remove 0 = .ok (.aload_n 0, 1) := by decide +kernel
theorem dX6_remove_1 : decode cX6_remove 1 = .ok (.iload_n 1, 1) := by decide +kernel
theorem dX6_remove_2 : decode cX6_remove 2 = .ok (.invokevirtual 25, 3) := by decide +kernel
theorem dX6_remove_5 : decode cX6_remove 5 = .ok (.ifCond .ne 4, 3) := by decide +kernel
theorem dX6_remove_8 : decode cX6_remove 8 = .ok (.return_, 1) := by decide +kernel
theorem dX6_remove_9 : decode cX6_remove 9 = .ok (.iload_n 1, 1) := by decide +kernel
theorem dX6_remove_10 : decode cX6_remove 10 = .ok (.iconst 1, 1) := by decide +kernel
theorem dX6_remove_11 : decode cX6_remove 11 = .ok (.iadd, 1) := by decide +kernel
theorem dX6_remove_12 : decode cX6_remove 12 = .ok (.aload_n 0, 1) := by decide +kernel
theorem dX6_remove_13 : decode cX6_remove 13 = .ok (.getfield 18, 3) := by decide +kernel
theorem dX6_remove_16 : decode cX6_remove 16 = .ok (.imul, 1) := by decide +kernel
theorem dX6_remove_17 : decode cX6_remove 17 = .ok (.istore_n 2, 1) := by decide +kernel
theorem dX6_remove_18 : decode cX6_remove 18 = .ok (.aload_n 0, 1) := by decide +kernel
theorem dX6_remove_19 : decode cX6_remove 19 = .ok (.getfield 21, 3) := by decide +kernel
theorem dX6_remove_22 : decode cX6_remove 22 = .ok (.iload_n 2, 1) := by decide +kernel
theorem dX6_remove_23 : decode cX6_remove 23 = .ok (.aload_n 0, 1) := by decide +kernel
theorem dX6_remove_24 : decode cX6_remove 24 = .ok (.getfield 21, 3) := by decide +kernel
theorem dX6_remove_27 : decode cX6_remove 27 = .ok (.iload_n 1, 1) := by decide +kernel
theorem dX6_remove_28 : decode cX6_remove 28 = .ok (.aload_n 0, 1) := by decide +kernel
theorem dX6_remove_29 : decode cX6_remove 29 = .ok (.getfield 18, 3) := by decide +kernel
theorem dX6_remove_32 : decode cX6_remove 32 = .ok (.imul, 1) := by decide +kernel
theorem dX6_remove_33 : decode cX6_remove 33 = .ok (.aload_n 0, 1) := by decide +kernel
theorem dX6_remove_34 : decode cX6_remove 34 = .ok (.getfield 9, 3) := by decide +kernel
theorem dX6_remove_37 : decode cX6_remove 37 = .ok (.aload_n 0, 1) := by decide +kernel
theorem dX6_remove_38 : decode cX6_remove 38 = .ok (.getfield 18, 3) := by decide +kernel
theorem dX6_remove_41 : decode cX6_remove 41 = .ok (.imul, 1) := by decide +kernel
theorem dX6_remove_42 : decode cX6_remove 42 = .ok (.iload_n 2, 1) := by decide +kernel
theorem dX6_remove_43 : decode cX6_remove 43 = .ok (.isub, 1) := by decide +kernel
theorem dX6_remove_44 : decode cX6_remove 44 = .ok (.invokestatic 37, 3) := by decide +kernel
theorem dX6_remove_47 : decode cX6_remove 47 = .ok (.aload_n 0, 1) := by decide +kernel
theorem dX6_remove_48 : decode cX6_remove 48 = .ok (.dup, 1) := by decide +kernel
theorem dX6_remove_49 : decode cX6_remove 49 = .ok (.getfield 9, 3) := by decide +kernel
theorem dX6_remove_52 : decode cX6_remove 52 = .ok (.iconst 1, 1) := by decide +kernel
theorem dX6_remove_53 : decode cX6_remove 53 = .ok (.isub, 1) := by decide +kernel
theorem dX6_remove_54 : decode cX6_remove 54 = .ok (.putfield 9, 3) := by decide +kernel
theorem dX6_remove_57 : decode cX6_remove 57 = .ok (.return_, 1) := by decide +kernel
set_option maxHeartbeats 4000000 in
set_option maxRecDepth 100000 in
theorem t_remove_S (l : Launch) (G : g5_G) (a_t a_n : Nat) (sz : Nat) (e_n : Int32) (p_r : Int32) (f_n : Nat → Int32) (h_e_n : 0 ≤ e_n.toInt ∧ e_n.toInt ≤ 10) : Met l yX6_remove (wsG yX6_remove cX6_remove 3 none) ({ frames := 1, cells := 0, slots := 0, locals := 60 }) (va_Pc [.ref a_t, .int p_r] (g5_P G [(a_t, .inr (6, [.int 10, .int 4, .ref a_n, .int e_n])), (a_n, .inl (G.2 0, 40, .inl f_n))] sz)) (va_Qv (fun (u : va_W) => ((p_r.toInt < 0 ∨ e_n.toInt ≤ p_r.toInt) ∧ (u = [(a_t, .inr (6, [.int 10, .int 4, .ref a_n, .int e_n])), (a_n, .inl (G.2 0, 40, .inl f_n))])) ∨ (∃ (o_f : Nat → Int32), (0 ≤ p_r.toInt ∧ p_r.toInt < e_n.toInt) ∧ ((e_n - 1).toInt = e_n.toInt - 1) ∧ (o_f = trem f_n e_n.toInt 4 p_r.toInt) ∧ (u = [(a_t, .inr (6, [.int 10, .int 4, .ref a_n, .int (e_n - 1)])), (a_n, .inl (G.2 0, 40, .inl o_f))]))) (g5_B G (va_A [(a_t, .inr (6, [.int 10, .int 4, .ref a_n, .int e_n])), (a_n, .inl (G.2 0, 40, .inl f_n))] sz)) (va_A [(a_t, .inr (6, [.int 10, .int 4, .ref a_n, .int e_n])), (a_n, .inl (G.2 0, 40, .inl f_n))] sz)) 0 0 (va_A [(a_t, .inr (6, [.int 10, .int 4, .ref a_n, .int e_n])), (a_n, .inl (G.2 0, 40, .inl f_n))] sz) := by
  refine Met.ofW (cc := cX6_remove) (maxL := 3) (ret := none) (by decide) rfl ?_
  intro p e s m args below meth c s₁ B hml hv
  obtain ⟨rfl, hsz, hP, hK, hD0, hN, hT⟩ := hv
  have hx := B.exec
  have hb := B.bytes
  have hr := B.returns
  have hts : ∀ w ∈ tblG, w.before _ s = true := fun w h => atoms_spec (ws := (wsG yX6_remove cX6_remove 3 none)) B.pre w (List.mem_cons_of_mem _ h)
  have hown : s.vm.findClass RX6 = some m.cls := findClass_of_methodNamed B.named
  have hlocks := B.notSynchronized
  subst hsz
  have hD := hD0.self (sz := s.heap.size)
  generalize hAe : va_A [(a_t, .inr (6, [.int 10, .int 4, .ref a_n, .int e_n])), (a_n, .inl (G.2 0, 40, .inl f_n))] s.heap.size = A at hD hT ⊢
  have hA : ∀ q : Nat, s.heap.size ≤ q → A q := fun q h => by rw [← hAe]; exact Or.inr h
  have hS : va_S A s.heap s.heap [] := va_S.rf
  have hP : va_P G.1 vwCl [(a_t, .inr (6, [.int 10, .int 4, .ref a_n, .int e_n])), (a_n, .inl (G.2 0, 40, .inl f_n))] s.heap := hP
  have hl := lv_entry ([.ref a_t, .int p_r]) (n := 3) (Nat.le_of_ble_eq_true rfl)
  rw [lg_entry_eq]
  generalize (lg_sl ([.ref a_t, .int p_r]) ++ List.replicate (3 - (lg_sl ([.ref a_t, .int p_r])).length) Slot.unset).toArray = ls at hl ⊢
  have hl : lv_has ls 3 [(0, .ref a_t), (1, .int p_r)] := hl
  refine lv_aload_n hx hb dX6_remove_0 rfl (lv_at hl 0 rfl) ?_
  refine lv_iload_n hx hb dX6_remove_1 rfl (lv_at hl 1 rfl) ?_
  have hPc := hP.sub (ws' := [(a_t, .inr (6, [.int 10, .int 4, .ref a_n, .int e_n]))]) [0] rfl
  have hDc := hD.sub (ws' := [(a_t, .inr (6, [.int 10, .int 4, .ref a_n, .int e_n]))]) [0] (by decide) rfl
  have hFc := va_free (wc := [(a_t, .inr (6, [.int 10, .int 4, .ref a_n, .int e_n]))]) hD hS hA [0] rfl
  refine va_calli (va_runV (As := [.int p_r]) (rest := []) ⟨hx, hb, hml, hown, hts⟩ (t_has_S l G a_t a_n s.heap.size e_n p_r ⟨by omega, by omega⟩) (cwV 1 hts gV_X6_25 rfl rfl rfl hv_X6_has ⟨Nat.le_of_ble_eq_true rfl, Nat.le_of_ble_eq_true rfl⟩) (g5_preV hPc hK hDc hN hT hS hFc (ci := 6) (q0 := 0) rfl rfl) rfl rfl hl.1 rfl (lv_room (Nat.le_of_ble_eq_true rfl)) dX6_remove_2 ⟨Nat.le_of_ble_eq_true rfl, Nat.le_of_ble_eq_true rfl⟩) hS (fun q _ h => hFc q h) hFc (fun r u t H1 locs ht hvm hw hB hz1 hk1 hS => ?_)
  obtain ⟨hP1, hD1⟩ := hB
  rw [ht] at hP1
  rcases hw with ⟨i_1, rfl, rfl⟩ | ⟨i_2, rfl, rfl⟩
  ·
    have i_1 : 0 ≤ p_r.toInt ∧ p_r.toInt < e_n.toInt := i_1
    obtain ⟨hP, hD⟩ := va_join (wr := [(a_n, .inl (G.2 0, 40, .inl f_n))]) (w1 := [(a_t, .inr (6, [.int 10, .int 4, .ref a_n, .int e_n]))]) hP hD [0] [1] rfl rfl (by decide) (by decide) hk1 hFc hP1 hD1
    generalize H1 = H at hP hS ⊢
    have hP : va_P G.1 vwCl [(a_n, .inl (G.2 0, 40, .inl f_n)), (a_t, .inr (6, [.int 10, .int 4, .ref a_n, .int e_n]))] H := hP
    have hD : va_D A [(a_n, .inl (G.2 0, 40, .inl f_n)), (a_t, .inr (6, [.int 10, .int 4, .ref a_n, .int e_n]))] := hD
    refine lv_if_ne (tgt := 9) hx hb dX6_remove_5 (by decide) (fun c_3 => ?_) (fun c_3 => ?_)
    ·
      refine lv_iload_n hx hb dX6_remove_9 rfl (lv_at hl 1 rfl) ?_
      refine lv_iconst (v := 1) hx hb dX6_remove_10 (by decide) ?_
      refine lv_iadd hx hb dX6_remove_11 ?_
      have t_4 : (p_r + 1).toInt = p_r.toInt + 1 := g5_iadd (a := p_r.toInt) (b := 1) (by rfl) (by decide) (by omega) (by omega)
      refine lv_aload_n hx hb dX6_remove_12 rfl (lv_at hl 0 rfl) ?_
      refine va_get (D := G.1) (ci := 6) (v := .int 4) (C := RX6) (T := TX6) (N := 4) hx hb hts inG_X6 hown hK hP 1 rfl rfl 1 (by decide) (hts _ fl_X6_18) (fun _ h9 => h9) rfl dX6_remove_13 ?_
      refine lv_imul hx hb dX6_remove_16 ?_
      have t_5 : ((p_r + 1) * 4).toInt = (p_r + 1).toInt * 4 := g5_imul (a := (p_r + 1).toInt) (b := 4) (by rfl) (by decide) (by omega) (by omega)
      refine lv_istore_n (lv' := [(2, .int ((p_r + 1) * 4)), (0, .ref a_t), (1, .int p_r)]) hx hb dX6_remove_17 rfl hl (by decide) rfl (fun ls hl => ?_)
      refine lv_aload_n hx hb dX6_remove_18 rfl (lv_at hl 1 rfl) ?_
      refine va_get (D := G.1) (ci := 6) (v := .ref a_n) (C := RX6) (T := TX6) (N := 4) hx hb hts inG_X6 hown hK hP 1 rfl rfl 2 (by decide) (hts _ fl_X6_21) (fun _ h9 => h9) rfl dX6_remove_19 ?_
      refine lv_iload_n hx hb dX6_remove_22 rfl (lv_at hl 0 rfl) ?_
      refine lv_aload_n hx hb dX6_remove_23 rfl (lv_at hl 1 rfl) ?_
      refine va_get (D := G.1) (ci := 6) (v := .ref a_n) (C := RX6) (T := TX6) (N := 4) hx hb hts inG_X6 hown hK hP 1 rfl rfl 2 (by decide) (hts _ fl_X6_21) (fun _ h9 => h9) rfl dX6_remove_24 ?_
      refine lv_iload_n hx hb dX6_remove_27 rfl (lv_at hl 2 rfl) ?_
      refine lv_aload_n hx hb dX6_remove_28 rfl (lv_at hl 1 rfl) ?_
      refine va_get (D := G.1) (ci := 6) (v := .int 4) (C := RX6) (T := TX6) (N := 4) hx hb hts inG_X6 hown hK hP 1 rfl rfl 1 (by decide) (hts _ fl_X6_18) (fun _ h9 => h9) rfl dX6_remove_29 ?_
      refine lv_imul hx hb dX6_remove_32 ?_
      have t_6 : (p_r * 4).toInt = p_r.toInt * 4 := g5_imul (a := p_r.toInt) (b := 4) (by rfl) (by decide) (by omega) (by omega)
      refine lv_aload_n hx hb dX6_remove_33 rfl (lv_at hl 1 rfl) ?_
      refine va_get (D := G.1) (ci := 6) (v := .int e_n) (C := RX6) (T := TX6) (N := 4) hx hb hts inG_X6 hown hK hP 1 rfl rfl 3 (by decide) (hts _ fl_X6_9) (fun _ h9 => h9) rfl dX6_remove_34 ?_
      refine lv_aload_n hx hb dX6_remove_37 rfl (lv_at hl 1 rfl) ?_
      refine va_get (D := G.1) (ci := 6) (v := .int 4) (C := RX6) (T := TX6) (N := 4) hx hb hts inG_X6 hown hK hP 1 rfl rfl 1 (by decide) (hts _ fl_X6_18) (fun _ h9 => h9) rfl dX6_remove_38 ?_
      refine lv_imul hx hb dX6_remove_41 ?_
      have t_7 : (e_n * 4).toInt = e_n.toInt * 4 := g5_imul (a := e_n.toInt) (b := 4) (by rfl) (by decide) (by omega) (by omega)
      refine lv_iload_n hx hb dX6_remove_42 rfl (lv_at hl 0 rfl) ?_
      refine lv_isub hx hb dX6_remove_43 ?_
      have t_8 : ((e_n * 4) - ((p_r + 1) * 4)).toInt = (e_n * 4).toInt - ((p_r + 1) * 4).toInt := g5_isub (a := (e_n * 4).toInt) (b := ((p_r + 1) * 4).toInt) (by rfl) (by rfl) (by omega) (by omega)
      refine va_copyi hx hb (hml.trans hl.1.symm) hown (hts _ ml_X6_37) (hts _ ac_nat) (hts _ ac_st) (hts _ ac_ini) hK hP hD hS 0 0 0 0 rfl rfl rfl rfl rfl (sp := ((p_r + 1) * 4)) (dp := (p_r * 4)) (n := ((e_n * 4) - ((p_r + 1) * 4))) (g_nlt0 (by omega)) (g_nlt0 (by omega)) (g_nlt0 (by omega)) (by have z9 := g5_clamp ((p_r + 1) * 4); have z10 := g5_clamp ((e_n * 4) - ((p_r + 1) * 4)); omega) (by have z11 := g5_clamp (p_r * 4); have z12 := g5_clamp ((e_n * 4) - ((p_r + 1) * 4)); omega) (fun _ _ => rfl) (Nat.le_of_ble_eq_true rfl) (by decide) dX6_remove_44 (fun H locs hP hD hS => ?_)
      have hP : va_P G.1 vwCl [(a_n, .inl (G.2 0, 40, .inl (va_cpy f_n f_n ((p_r + 1) * 4).toNatClampNeg (p_r * 4).toNatClampNeg ((e_n * 4) - ((p_r + 1) * 4)).toNatClampNeg))), (a_t, .inr (6, [.int 10, .int 4, .ref a_n, .int e_n]))] H := hP
      have hD : va_D A [(a_n, .inl (G.2 0, 40, .inl (va_cpy f_n f_n ((p_r + 1) * 4).toNatClampNeg (p_r * 4).toNatClampNeg ((e_n * 4) - ((p_r + 1) * 4)).toNatClampNeg))), (a_t, .inr (6, [.int 10, .int 4, .ref a_n, .int e_n]))] := hD
      refine lv_aload_n hx hb dX6_remove_47 rfl (lv_at hl 1 rfl) ?_
      refine lv_dup hx hb dX6_remove_48 rfl ?_
      refine va_get (D := G.1) (ci := 6) (v := .int e_n) (C := RX6) (T := TX6) (N := 4) hx hb hts inG_X6 hown hK hP 1 rfl rfl 3 (by decide) (hts _ fl_X6_9) (fun _ h9 => h9) rfl dX6_remove_49 ?_
      refine lv_iconst (v := 1) hx hb dX6_remove_52 (by decide) ?_
      refine lv_isub hx hb dX6_remove_53 ?_
      have t_13 : (e_n - 1).toInt = e_n.toInt - 1 := g5_isub (a := e_n.toInt) (b := 1) (by rfl) (by decide) (by omega) (by omega)
      refine va_put (D := G.1) (ci := 6) (v := .int (e_n - 1)) (ty := .int) (C := RX6) (T := TX6) (N := 4) hx hb hts inG_X6 tyX6 tyX6_ok nmX6 hown hK hP hD hS 1 rfl rfl 3 (by decide) (hts _ fl_X6_9) (fun _ h9 => h9) rfl (by decide +kernel) rfl rfl (Nat.le_of_ble_eq_true rfl) dX6_remove_54 (fun H locs hP hD hS => ?_)
      have hP : va_P G.1 vwCl [(a_n, .inl (G.2 0, 40, .inl (va_cpy f_n f_n ((p_r + 1) * 4).toNatClampNeg (p_r * 4).toNatClampNeg ((e_n * 4) - ((p_r + 1) * 4)).toNatClampNeg))), (a_t, .inr (6, [.int 10, .int 4, .ref a_n, .int (e_n - 1)]))] H := hP
      have hD : va_D A [(a_n, .inl (G.2 0, 40, .inl (va_cpy f_n f_n ((p_r + 1) * 4).toNatClampNeg (p_r * 4).toNatClampNeg ((e_n * 4) - ((p_r + 1) * 4)).toNatClampNeg))), (a_t, .inr (6, [.int 10, .int 4, .ref a_n, .int (e_n - 1)]))] := hD
      exact W.vret hx hb hr (fun t ht hW => ⟨⟨[(a_t, .inr (6, [.int 10, .int 4, .ref a_n, .int (e_n - 1)])), (a_n, .inl (G.2 0, 40, .inl (va_cpy f_n f_n ((p_r + 1) * 4).toNatClampNeg (p_r * 4).toNatClampNeg ((e_n * 4) - ((p_r + 1) * 4)).toNatClampNeg)))], rfl, Or.inr (⟨(va_cpy f_n f_n ((p_r + 1) * 4).toNatClampNeg (p_r * 4).toNatClampNeg ((e_n * 4) - ((p_r + 1) * 4)).toNatClampNeg), by omega, by omega, qt_rem (by omega) (by decide) (by omega) (by omega) (by omega) (by omega) (by omega) (by omega), rfl⟩), by rw [ht]; exact hP.sub [1, 0] rfl, hD.sub [1, 0] (by decide) rfl⟩, hS.F ht⟩) hS.2.2 dX6_remove_57
    ·
      exact absurd c_3 (by decide)
  ·
    have i_2 : p_r.toInt < 0 ∨ e_n.toInt ≤ p_r.toInt := i_2
    obtain ⟨hP, hD⟩ := va_join (wr := [(a_n, .inl (G.2 0, 40, .inl f_n))]) (w1 := [(a_t, .inr (6, [.int 10, .int 4, .ref a_n, .int e_n]))]) hP hD [0] [1] rfl rfl (by decide) (by decide) hk1 hFc hP1 hD1
    generalize H1 = H at hP hS ⊢
    have hP : va_P G.1 vwCl [(a_n, .inl (G.2 0, 40, .inl f_n)), (a_t, .inr (6, [.int 10, .int 4, .ref a_n, .int e_n]))] H := hP
    have hD : va_D A [(a_n, .inl (G.2 0, 40, .inl f_n)), (a_t, .inr (6, [.int 10, .int 4, .ref a_n, .int e_n]))] := hD
    refine lv_if_ne (tgt := 9) hx hb dX6_remove_5 (by decide) (fun c_14 => ?_) (fun c_14 => ?_)
    ·
      exact absurd c_14 (by decide)
    ·
      exact W.vret hx hb hr (fun t ht hW => ⟨⟨[(a_t, .inr (6, [.int 10, .int 4, .ref a_n, .int e_n])), (a_n, .inl (G.2 0, 40, .inl f_n))], rfl, Or.inl (⟨by omega, rfl⟩), by rw [ht]; exact hP.sub [1, 0] rfl, hD.sub [1, 0] (by decide) rfl⟩, hS.F ht⟩) hS.2.2 dX6_remove_8
set_option maxHeartbeats 4000000 in
set_option maxRecDepth 100000 in
theorem t_copyFrom_S (l : Launch) (G : g5_G) (a_t a_n a_o a_on : Nat) (sz : Nat) (e_n : Int32) (e_o : Int32) (f_n : Nat → Int32) (f_o : Nat → Int32) (h_e_n : 0 ≤ e_n.toInt ∧ e_n.toInt ≤ 10) (h_e_o : 0 ≤ e_o.toInt ∧ e_o.toInt ≤ 10) : Met l yX6_copyFrom (wsG yX6_copyFrom cX6_copyFrom 2 none) ({ frames := 1, cells := 0, slots := 0, locals := 60 }) (va_Pc [.ref a_t, .ref a_o] (g5_P G [(a_t, .inr (6, [.int 10, .int 4, .ref a_n, .int e_n])), (a_n, .inl (G.2 0, 40, .inl f_n)), (a_o, .inr (6, [.int 10, .int 4, .ref a_on, .int e_o])), (a_on, .inl (G.2 0, 40, .inl f_o))] sz)) (va_Qv (fun (u : va_W) => ((u = [(a_t, .inr (6, [.int 10, .int 4, .ref a_n, .int e_o])), (a_n, .inl (G.2 0, 40, .inl (va_cpy f_o f_n 0 0 40))), (a_o, .inr (6, [.int 10, .int 4, .ref a_on, .int e_o])), (a_on, .inl (G.2 0, 40, .inl f_o))]))) (g5_B G (va_A [(a_t, .inr (6, [.int 10, .int 4, .ref a_n, .int e_n])), (a_n, .inl (G.2 0, 40, .inl f_n)), (a_o, .inr (6, [.int 10, .int 4, .ref a_on, .int e_o])), (a_on, .inl (G.2 0, 40, .inl f_o))] sz)) (va_A [(a_t, .inr (6, [.int 10, .int 4, .ref a_n, .int e_n])), (a_n, .inl (G.2 0, 40, .inl f_n)), (a_o, .inr (6, [.int 10, .int 4, .ref a_on, .int e_o])), (a_on, .inl (G.2 0, 40, .inl f_o))] sz)) 0 0 (va_A [(a_t, .inr (6, [.int 10, .int 4, .ref a_n, .int e_n])), (a_n, .inl (G.2 0, 40, .inl f_n)), (a_o, .inr (6, [.int 10, .int 4, .ref a_on, .int e_o])), (a_on, .inl (G.2 0, 40, .inl f_o))] sz) := by
  refine Met.ofW (cc := cX6_copyFrom) (maxL := 2) (ret := none) (by decide) rfl ?_
  intro p e s m args below meth c s₁ B hml hv
  obtain ⟨rfl, hsz, hP, hK, hD0, hN, hT⟩ := hv
  have hx := B.exec
  have hb := B.bytes
  have hr := B.returns
  have hts : ∀ w ∈ tblG, w.before _ s = true := fun w h => atoms_spec (ws := (wsG yX6_copyFrom cX6_copyFrom 2 none)) B.pre w (List.mem_cons_of_mem _ h)
  have hown : s.vm.findClass RX6 = some m.cls := findClass_of_methodNamed B.named
  have hlocks := B.notSynchronized
  subst hsz
  have hD := hD0.self (sz := s.heap.size)
  generalize hAe : va_A [(a_t, .inr (6, [.int 10, .int 4, .ref a_n, .int e_n])), (a_n, .inl (G.2 0, 40, .inl f_n)), (a_o, .inr (6, [.int 10, .int 4, .ref a_on, .int e_o])), (a_on, .inl (G.2 0, 40, .inl f_o))] s.heap.size = A at hD hT ⊢
  have hA : ∀ q : Nat, s.heap.size ≤ q → A q := fun q h => by rw [← hAe]; exact Or.inr h
  have hS : va_S A s.heap s.heap [] := va_S.rf
  have hP : va_P G.1 vwCl [(a_t, .inr (6, [.int 10, .int 4, .ref a_n, .int e_n])), (a_n, .inl (G.2 0, 40, .inl f_n)), (a_o, .inr (6, [.int 10, .int 4, .ref a_on, .int e_o])), (a_on, .inl (G.2 0, 40, .inl f_o))] s.heap := hP
  have hl := lv_entry ([.ref a_t, .ref a_o]) (n := 2) (Nat.le_of_ble_eq_true rfl)
  rw [lg_entry_eq]
  generalize (lg_sl ([.ref a_t, .ref a_o]) ++ List.replicate (2 - (lg_sl ([.ref a_t, .ref a_o])).length) Slot.unset).toArray = ls at hl ⊢
  have hl : lv_has ls 2 [(0, .ref a_t), (1, .ref a_o)] := hl
  refine lv_aload_n hx hb dX6_copyFrom_0 rfl (lv_at hl 1 rfl) ?_
  refine va_get (D := G.1) (ci := 6) (v := .ref a_on) (C := RX6) (T := TX6) (N := 4) hx hb hts inG_X6 hown hK hP 2 rfl rfl 2 (by decide) (hts _ fl_X6_21) (fun _ h9 => h9) rfl dX6_copyFrom_1 ?_
  refine va_alen hx hb hK hP 3 0 rfl rfl (v := 40) (by show Int32.ofNat 40 = 40; decide) dX6_copyFrom_4 ?_
  refine lv_aload_n hx hb dX6_copyFrom_5 rfl (lv_at hl 0 rfl) ?_
  refine va_get (D := G.1) (ci := 6) (v := .ref a_n) (C := RX6) (T := TX6) (N := 4) hx hb hts inG_X6 hown hK hP 0 rfl rfl 2 (by decide) (hts _ fl_X6_21) (fun _ h9 => h9) rfl dX6_copyFrom_6 ?_
  refine va_alen hx hb hK hP 1 0 rfl rfl (v := 40) (by show Int32.ofNat 40 = 40; decide) dX6_copyFrom_9 ?_
  refine lv_icmp_ne (tgt := 39) hx hb dX6_copyFrom_10 (by decide) (fun c_1 => ?_) (fun c_1 => ?_)
  ·
    exact absurd c_1 (by decide)
  ·
    refine lv_aload_n hx hb dX6_copyFrom_13 rfl (lv_at hl 1 rfl) ?_
    refine va_get (D := G.1) (ci := 6) (v := .ref a_on) (C := RX6) (T := TX6) (N := 4) hx hb hts inG_X6 hown hK hP 2 rfl rfl 2 (by decide) (hts _ fl_X6_21) (fun _ h9 => h9) rfl dX6_copyFrom_14 ?_
    refine lv_iconst (v := 0) hx hb dX6_copyFrom_17 (by decide) ?_
    refine lv_aload_n hx hb dX6_copyFrom_18 rfl (lv_at hl 0 rfl) ?_
    refine va_get (D := G.1) (ci := 6) (v := .ref a_n) (C := RX6) (T := TX6) (N := 4) hx hb hts inG_X6 hown hK hP 0 rfl rfl 2 (by decide) (hts _ fl_X6_21) (fun _ h9 => h9) rfl dX6_copyFrom_19 ?_
    refine lv_iconst (v := 0) hx hb dX6_copyFrom_22 (by decide) ?_
    refine lv_aload_n hx hb dX6_copyFrom_23 rfl (lv_at hl 0 rfl) ?_
    refine va_get (D := G.1) (ci := 6) (v := .ref a_n) (C := RX6) (T := TX6) (N := 4) hx hb hts inG_X6 hown hK hP 0 rfl rfl 2 (by decide) (hts _ fl_X6_21) (fun _ h9 => h9) rfl dX6_copyFrom_24 ?_
    refine va_alen hx hb hK hP 1 0 rfl rfl (v := 40) (by show Int32.ofNat 40 = 40; decide) dX6_copyFrom_27 ?_
    refine va_copyi hx hb (hml.trans hl.1.symm) hown (hts _ ml_X6_37) (hts _ ac_nat) (hts _ ac_st) (hts _ ac_ini) hK hP hD hS 3 1 0 0 rfl rfl rfl rfl rfl (sp := 0) (dp := 0) (n := 40) (by decide) (by decide) (by decide) (by decide) (by decide) (fun _ _ => rfl) (Nat.le_of_ble_eq_true rfl) (by decide) dX6_copyFrom_28 (fun H locs hP hD hS => ?_)
    have hP : va_P G.1 vwCl [(a_t, .inr (6, [.int 10, .int 4, .ref a_n, .int e_n])), (a_n, .inl (G.2 0, 40, .inl (va_cpy f_o f_n 0 0 40))), (a_o, .inr (6, [.int 10, .int 4, .ref a_on, .int e_o])), (a_on, .inl (G.2 0, 40, .inl f_o))] H := hP
    have hD : va_D A [(a_t, .inr (6, [.int 10, .int 4, .ref a_n, .int e_n])), (a_n, .inl (G.2 0, 40, .inl (va_cpy f_o f_n 0 0 40))), (a_o, .inr (6, [.int 10, .int 4, .ref a_on, .int e_o])), (a_on, .inl (G.2 0, 40, .inl f_o))] := hD
    refine lv_aload_n hx hb dX6_copyFrom_31 rfl (lv_at hl 0 rfl) ?_
    refine lv_aload_n hx hb dX6_copyFrom_32 rfl (lv_at hl 1 rfl) ?_
    refine va_get (D := G.1) (ci := 6) (v := .int e_o) (C := RX6) (T := TX6) (N := 4) hx hb hts inG_X6 hown hK hP 2 rfl rfl 3 (by decide) (hts _ fl_X6_9) (fun _ h9 => h9) rfl dX6_copyFrom_33 ?_
    refine va_put (D := G.1) (ci := 6) (v := .int e_o) (ty := .int) (C := RX6) (T := TX6) (N := 4) hx hb hts inG_X6 tyX6 tyX6_ok nmX6 hown hK hP hD hS 0 rfl rfl 3 (by decide) (hts _ fl_X6_9) (fun _ h9 => h9) rfl (by decide +kernel) rfl rfl (Nat.le_of_ble_eq_true rfl) dX6_copyFrom_36 (fun H locs hP hD hS => ?_)
    have hP : va_P G.1 vwCl [(a_t, .inr (6, [.int 10, .int 4, .ref a_n, .int e_o])), (a_n, .inl (G.2 0, 40, .inl (va_cpy f_o f_n 0 0 40))), (a_o, .inr (6, [.int 10, .int 4, .ref a_on, .int e_o])), (a_on, .inl (G.2 0, 40, .inl f_o))] H := hP
    have hD : va_D A [(a_t, .inr (6, [.int 10, .int 4, .ref a_n, .int e_o])), (a_n, .inl (G.2 0, 40, .inl (va_cpy f_o f_n 0 0 40))), (a_o, .inr (6, [.int 10, .int 4, .ref a_on, .int e_o])), (a_on, .inl (G.2 0, 40, .inl f_o))] := hD
    exact W.vret hx hb hr (fun t ht hW => ⟨⟨[(a_t, .inr (6, [.int 10, .int 4, .ref a_n, .int e_o])), (a_n, .inl (G.2 0, 40, .inl (va_cpy f_o f_n 0 0 40))), (a_o, .inr (6, [.int 10, .int 4, .ref a_on, .int e_o])), (a_on, .inl (G.2 0, 40, .inl f_o))], rfl, rfl, by rw [ht]; exact hP.sub [0, 1, 2, 3] rfl, hD.sub [0, 1, 2, 3] (by decide) rfl⟩, hS.F ht⟩) hS.2.2 dX6_copyFrom_39
set_option maxHeartbeats 4000000 in
set_option maxRecDepth 100000 in
theorem t_copyFrom_P (l : Launch) (G : g5_G) (a_t a_n a_o a_on : Nat) (sz : Nat) (e_n : Int32) (e_o : Int32) (f_n : Nat → Int32) (f_o : Nat → Int32) (h_e_n : 0 ≤ e_n.toInt ∧ e_n.toInt ≤ 8) (h_e_o : 0 ≤ e_o.toInt ∧ e_o.toInt ≤ 8) : Met l yX6_copyFrom (wsG yX6_copyFrom cX6_copyFrom 2 none) ({ frames := 1, cells := 0, slots := 0, locals := 60 }) (va_Pc [.ref a_t, .ref a_o] (g5_P G [(a_t, .inr (6, [.int 8, .int 5, .ref a_n, .int e_n])), (a_n, .inl (G.2 0, 40, .inl f_n)), (a_o, .inr (6, [.int 8, .int 5, .ref a_on, .int e_o])), (a_on, .inl (G.2 0, 40, .inl f_o))] sz)) (va_Qv (fun (u : va_W) => ((u = [(a_t, .inr (6, [.int 8, .int 5, .ref a_n, .int e_o])), (a_n, .inl (G.2 0, 40, .inl (va_cpy f_o f_n 0 0 40))), (a_o, .inr (6, [.int 8, .int 5, .ref a_on, .int e_o])), (a_on, .inl (G.2 0, 40, .inl f_o))]))) (g5_B G (va_A [(a_t, .inr (6, [.int 8, .int 5, .ref a_n, .int e_n])), (a_n, .inl (G.2 0, 40, .inl f_n)), (a_o, .inr (6, [.int 8, .int 5, .ref a_on, .int e_o])), (a_on, .inl (G.2 0, 40, .inl f_o))] sz)) (va_A [(a_t, .inr (6, [.int 8, .int 5, .ref a_n, .int e_n])), (a_n, .inl (G.2 0, 40, .inl f_n)), (a_o, .inr (6, [.int 8, .int 5, .ref a_on, .int e_o])), (a_on, .inl (G.2 0, 40, .inl f_o))] sz)) 0 0 (va_A [(a_t, .inr (6, [.int 8, .int 5, .ref a_n, .int e_n])), (a_n, .inl (G.2 0, 40, .inl f_n)), (a_o, .inr (6, [.int 8, .int 5, .ref a_on, .int e_o])), (a_on, .inl (G.2 0, 40, .inl f_o))] sz) := by
  refine Met.ofW (cc := cX6_copyFrom) (maxL := 2) (ret := none) (by decide) rfl ?_
  intro p e s m args below meth c s₁ B hml hv
  obtain ⟨rfl, hsz, hP, hK, hD0, hN, hT⟩ := hv
  have hx := B.exec
  have hb := B.bytes
  have hr := B.returns
  have hts : ∀ w ∈ tblG, w.before _ s = true := fun w h => atoms_spec (ws := (wsG yX6_copyFrom cX6_copyFrom 2 none)) B.pre w (List.mem_cons_of_mem _ h)
  have hown : s.vm.findClass RX6 = some m.cls := findClass_of_methodNamed B.named
  have hlocks := B.notSynchronized
  subst hsz
  have hD := hD0.self (sz := s.heap.size)
  generalize hAe : va_A [(a_t, .inr (6, [.int 8, .int 5, .ref a_n, .int e_n])), (a_n, .inl (G.2 0, 40, .inl f_n)), (a_o, .inr (6, [.int 8, .int 5, .ref a_on, .int e_o])), (a_on, .inl (G.2 0, 40, .inl f_o))] s.heap.size = A at hD hT ⊢
  have hA : ∀ q : Nat, s.heap.size ≤ q → A q := fun q h => by rw [← hAe]; exact Or.inr h
  have hS : va_S A s.heap s.heap [] := va_S.rf
  have hP : va_P G.1 vwCl [(a_t, .inr (6, [.int 8, .int 5, .ref a_n, .int e_n])), (a_n, .inl (G.2 0, 40, .inl f_n)), (a_o, .inr (6, [.int 8, .int 5, .ref a_on, .int e_o])), (a_on, .inl (G.2 0, 40, .inl f_o))] s.heap := hP
  have hl := lv_entry ([.ref a_t, .ref a_o]) (n := 2) (Nat.le_of_ble_eq_true rfl)
  rw [lg_entry_eq]
  generalize (lg_sl ([.ref a_t, .ref a_o]) ++ List.replicate (2 - (lg_sl ([.ref a_t, .ref a_o])).length) Slot.unset).toArray = ls at hl ⊢
  have hl : lv_has ls 2 [(0, .ref a_t), (1, .ref a_o)] := hl
  refine lv_aload_n hx hb dX6_copyFrom_0 rfl (lv_at hl 1 rfl) ?_
  refine va_get (D := G.1) (ci := 6) (v := .ref a_on) (C := RX6) (T := TX6) (N := 4) hx hb hts inG_X6 hown hK hP 2 rfl rfl 2 (by decide) (hts _ fl_X6_21) (fun _ h9 => h9) rfl dX6_copyFrom_1 ?_
  refine va_alen hx hb hK hP 3 0 rfl rfl (v := 40) (by show Int32.ofNat 40 = 40; decide) dX6_copyFrom_4 ?_
  refine lv_aload_n hx hb dX6_copyFrom_5 rfl (lv_at hl 0 rfl) ?_
  refine va_get (D := G.1) (ci := 6) (v := .ref a_n) (C := RX6) (T := TX6) (N := 4) hx hb hts inG_X6 hown hK hP 0 rfl rfl 2 (by decide) (hts _ fl_X6_21) (fun _ h9 => h9) rfl dX6_copyFrom_6 ?_
  refine va_alen hx hb hK hP 1 0 rfl rfl (v := 40) (by show Int32.ofNat 40 = 40; decide) dX6_copyFrom_9 ?_
  refine lv_icmp_ne (tgt := 39) hx hb dX6_copyFrom_10 (by decide) (fun c_1 => ?_) (fun c_1 => ?_)
  ·
    exact absurd c_1 (by decide)
  ·
    refine lv_aload_n hx hb dX6_copyFrom_13 rfl (lv_at hl 1 rfl) ?_
    refine va_get (D := G.1) (ci := 6) (v := .ref a_on) (C := RX6) (T := TX6) (N := 4) hx hb hts inG_X6 hown hK hP 2 rfl rfl 2 (by decide) (hts _ fl_X6_21) (fun _ h9 => h9) rfl dX6_copyFrom_14 ?_
    refine lv_iconst (v := 0) hx hb dX6_copyFrom_17 (by decide) ?_
    refine lv_aload_n hx hb dX6_copyFrom_18 rfl (lv_at hl 0 rfl) ?_
    refine va_get (D := G.1) (ci := 6) (v := .ref a_n) (C := RX6) (T := TX6) (N := 4) hx hb hts inG_X6 hown hK hP 0 rfl rfl 2 (by decide) (hts _ fl_X6_21) (fun _ h9 => h9) rfl dX6_copyFrom_19 ?_
    refine lv_iconst (v := 0) hx hb dX6_copyFrom_22 (by decide) ?_
    refine lv_aload_n hx hb dX6_copyFrom_23 rfl (lv_at hl 0 rfl) ?_
    refine va_get (D := G.1) (ci := 6) (v := .ref a_n) (C := RX6) (T := TX6) (N := 4) hx hb hts inG_X6 hown hK hP 0 rfl rfl 2 (by decide) (hts _ fl_X6_21) (fun _ h9 => h9) rfl dX6_copyFrom_24 ?_
    refine va_alen hx hb hK hP 1 0 rfl rfl (v := 40) (by show Int32.ofNat 40 = 40; decide) dX6_copyFrom_27 ?_
    refine va_copyi hx hb (hml.trans hl.1.symm) hown (hts _ ml_X6_37) (hts _ ac_nat) (hts _ ac_st) (hts _ ac_ini) hK hP hD hS 3 1 0 0 rfl rfl rfl rfl rfl (sp := 0) (dp := 0) (n := 40) (by decide) (by decide) (by decide) (by decide) (by decide) (fun _ _ => rfl) (Nat.le_of_ble_eq_true rfl) (by decide) dX6_copyFrom_28 (fun H locs hP hD hS => ?_)
    have hP : va_P G.1 vwCl [(a_t, .inr (6, [.int 8, .int 5, .ref a_n, .int e_n])), (a_n, .inl (G.2 0, 40, .inl (va_cpy f_o f_n 0 0 40))), (a_o, .inr (6, [.int 8, .int 5, .ref a_on, .int e_o])), (a_on, .inl (G.2 0, 40, .inl f_o))] H := hP
    have hD : va_D A [(a_t, .inr (6, [.int 8, .int 5, .ref a_n, .int e_n])), (a_n, .inl (G.2 0, 40, .inl (va_cpy f_o f_n 0 0 40))), (a_o, .inr (6, [.int 8, .int 5, .ref a_on, .int e_o])), (a_on, .inl (G.2 0, 40, .inl f_o))] := hD
    refine lv_aload_n hx hb dX6_copyFrom_31 rfl (lv_at hl 0 rfl) ?_
    refine lv_aload_n hx hb dX6_copyFrom_32 rfl (lv_at hl 1 rfl) ?_
    refine va_get (D := G.1) (ci := 6) (v := .int e_o) (C := RX6) (T := TX6) (N := 4) hx hb hts inG_X6 hown hK hP 2 rfl rfl 3 (by decide) (hts _ fl_X6_9) (fun _ h9 => h9) rfl dX6_copyFrom_33 ?_
    refine va_put (D := G.1) (ci := 6) (v := .int e_o) (ty := .int) (C := RX6) (T := TX6) (N := 4) hx hb hts inG_X6 tyX6 tyX6_ok nmX6 hown hK hP hD hS 0 rfl rfl 3 (by decide) (hts _ fl_X6_9) (fun _ h9 => h9) rfl (by decide +kernel) rfl rfl (Nat.le_of_ble_eq_true rfl) dX6_copyFrom_36 (fun H locs hP hD hS => ?_)
    have hP : va_P G.1 vwCl [(a_t, .inr (6, [.int 8, .int 5, .ref a_n, .int e_o])), (a_n, .inl (G.2 0, 40, .inl (va_cpy f_o f_n 0 0 40))), (a_o, .inr (6, [.int 8, .int 5, .ref a_on, .int e_o])), (a_on, .inl (G.2 0, 40, .inl f_o))] H := hP
    have hD : va_D A [(a_t, .inr (6, [.int 8, .int 5, .ref a_n, .int e_o])), (a_n, .inl (G.2 0, 40, .inl (va_cpy f_o f_n 0 0 40))), (a_o, .inr (6, [.int 8, .int 5, .ref a_on, .int e_o])), (a_on, .inl (G.2 0, 40, .inl f_o))] := hD
    exact W.vret hx hb hr (fun t ht hW => ⟨⟨[(a_t, .inr (6, [.int 8, .int 5, .ref a_n, .int e_o])), (a_n, .inl (G.2 0, 40, .inl (va_cpy f_o f_n 0 0 40))), (a_o, .inr (6, [.int 8, .int 5, .ref a_on, .int e_o])), (a_on, .inl (G.2 0, 40, .inl f_o))], rfl, rfl, by rw [ht]; exact hP.sub [0, 1, 2, 3] rfl, hD.sub [0, 1, 2, 3] (by decide) rfl⟩, hS.F ht⟩) hS.2.2 dX6_copyFrom_39
set_option maxHeartbeats 4000000 in
set_option maxRecDepth 100000 in
theorem t_copyFrom_W (l : Launch) (G : g5_G) (a_t a_n a_o a_on : Nat) (sz : Nat) (e_n : Int32) (e_o : Int32) (f_n : Nat → Int32) (f_o : Nat → Int32) (h_e_n : 0 ≤ e_n.toInt ∧ e_n.toInt ≤ 6) (h_e_o : 0 ≤ e_o.toInt ∧ e_o.toInt ≤ 6) : Met l yX6_copyFrom (wsG yX6_copyFrom cX6_copyFrom 2 none) ({ frames := 1, cells := 0, slots := 0, locals := 60 }) (va_Pc [.ref a_t, .ref a_o] (g5_P G [(a_t, .inr (6, [.int 6, .int 6, .ref a_n, .int e_n])), (a_n, .inl (G.2 0, 36, .inl f_n)), (a_o, .inr (6, [.int 6, .int 6, .ref a_on, .int e_o])), (a_on, .inl (G.2 0, 36, .inl f_o))] sz)) (va_Qv (fun (u : va_W) => ((u = [(a_t, .inr (6, [.int 6, .int 6, .ref a_n, .int e_o])), (a_n, .inl (G.2 0, 36, .inl (va_cpy f_o f_n 0 0 36))), (a_o, .inr (6, [.int 6, .int 6, .ref a_on, .int e_o])), (a_on, .inl (G.2 0, 36, .inl f_o))]))) (g5_B G (va_A [(a_t, .inr (6, [.int 6, .int 6, .ref a_n, .int e_n])), (a_n, .inl (G.2 0, 36, .inl f_n)), (a_o, .inr (6, [.int 6, .int 6, .ref a_on, .int e_o])), (a_on, .inl (G.2 0, 36, .inl f_o))] sz)) (va_A [(a_t, .inr (6, [.int 6, .int 6, .ref a_n, .int e_n])), (a_n, .inl (G.2 0, 36, .inl f_n)), (a_o, .inr (6, [.int 6, .int 6, .ref a_on, .int e_o])), (a_on, .inl (G.2 0, 36, .inl f_o))] sz)) 0 0 (va_A [(a_t, .inr (6, [.int 6, .int 6, .ref a_n, .int e_n])), (a_n, .inl (G.2 0, 36, .inl f_n)), (a_o, .inr (6, [.int 6, .int 6, .ref a_on, .int e_o])), (a_on, .inl (G.2 0, 36, .inl f_o))] sz) := by
  refine Met.ofW (cc := cX6_copyFrom) (maxL := 2) (ret := none) (by decide) rfl ?_
  intro p e s m args below meth c s₁ B hml hv
  obtain ⟨rfl, hsz, hP, hK, hD0, hN, hT⟩ := hv
  have hx := B.exec
  have hb := B.bytes
  have hr := B.returns
  have hts : ∀ w ∈ tblG, w.before _ s = true := fun w h => atoms_spec (ws := (wsG yX6_copyFrom cX6_copyFrom 2 none)) B.pre w (List.mem_cons_of_mem _ h)
  have hown : s.vm.findClass RX6 = some m.cls := findClass_of_methodNamed B.named
  have hlocks := B.notSynchronized
  subst hsz
  have hD := hD0.self (sz := s.heap.size)
  generalize hAe : va_A [(a_t, .inr (6, [.int 6, .int 6, .ref a_n, .int e_n])), (a_n, .inl (G.2 0, 36, .inl f_n)), (a_o, .inr (6, [.int 6, .int 6, .ref a_on, .int e_o])), (a_on, .inl (G.2 0, 36, .inl f_o))] s.heap.size = A at hD hT ⊢
  have hA : ∀ q : Nat, s.heap.size ≤ q → A q := fun q h => by rw [← hAe]; exact Or.inr h
  have hS : va_S A s.heap s.heap [] := va_S.rf
  have hP : va_P G.1 vwCl [(a_t, .inr (6, [.int 6, .int 6, .ref a_n, .int e_n])), (a_n, .inl (G.2 0, 36, .inl f_n)), (a_o, .inr (6, [.int 6, .int 6, .ref a_on, .int e_o])), (a_on, .inl (G.2 0, 36, .inl f_o))] s.heap := hP
  have hl := lv_entry ([.ref a_t, .ref a_o]) (n := 2) (Nat.le_of_ble_eq_true rfl)
  rw [lg_entry_eq]
  generalize (lg_sl ([.ref a_t, .ref a_o]) ++ List.replicate (2 - (lg_sl ([.ref a_t, .ref a_o])).length) Slot.unset).toArray = ls at hl ⊢
  have hl : lv_has ls 2 [(0, .ref a_t), (1, .ref a_o)] := hl
  refine lv_aload_n hx hb dX6_copyFrom_0 rfl (lv_at hl 1 rfl) ?_
  refine va_get (D := G.1) (ci := 6) (v := .ref a_on) (C := RX6) (T := TX6) (N := 4) hx hb hts inG_X6 hown hK hP 2 rfl rfl 2 (by decide) (hts _ fl_X6_21) (fun _ h9 => h9) rfl dX6_copyFrom_1 ?_
  refine va_alen hx hb hK hP 3 0 rfl rfl (v := 36) (by show Int32.ofNat 36 = 36; decide) dX6_copyFrom_4 ?_
  refine lv_aload_n hx hb dX6_copyFrom_5 rfl (lv_at hl 0 rfl) ?_
  refine va_get (D := G.1) (ci := 6) (v := .ref a_n) (C := RX6) (T := TX6) (N := 4) hx hb hts inG_X6 hown hK hP 0 rfl rfl 2 (by decide) (hts _ fl_X6_21) (fun _ h9 => h9) rfl dX6_copyFrom_6 ?_
  refine va_alen hx hb hK hP 1 0 rfl rfl (v := 36) (by show Int32.ofNat 36 = 36; decide) dX6_copyFrom_9 ?_
  refine lv_icmp_ne (tgt := 39) hx hb dX6_copyFrom_10 (by decide) (fun c_1 => ?_) (fun c_1 => ?_)
  ·
    exact absurd c_1 (by decide)
  ·
    refine lv_aload_n hx hb dX6_copyFrom_13 rfl (lv_at hl 1 rfl) ?_
    refine va_get (D := G.1) (ci := 6) (v := .ref a_on) (C := RX6) (T := TX6) (N := 4) hx hb hts inG_X6 hown hK hP 2 rfl rfl 2 (by decide) (hts _ fl_X6_21) (fun _ h9 => h9) rfl dX6_copyFrom_14 ?_
    refine lv_iconst (v := 0) hx hb dX6_copyFrom_17 (by decide) ?_
    refine lv_aload_n hx hb dX6_copyFrom_18 rfl (lv_at hl 0 rfl) ?_
    refine va_get (D := G.1) (ci := 6) (v := .ref a_n) (C := RX6) (T := TX6) (N := 4) hx hb hts inG_X6 hown hK hP 0 rfl rfl 2 (by decide) (hts _ fl_X6_21) (fun _ h9 => h9) rfl dX6_copyFrom_19 ?_
    refine lv_iconst (v := 0) hx hb dX6_copyFrom_22 (by decide) ?_
    refine lv_aload_n hx hb dX6_copyFrom_23 rfl (lv_at hl 0 rfl) ?_
    refine va_get (D := G.1) (ci := 6) (v := .ref a_n) (C := RX6) (T := TX6) (N := 4) hx hb hts inG_X6 hown hK hP 0 rfl rfl 2 (by decide) (hts _ fl_X6_21) (fun _ h9 => h9) rfl dX6_copyFrom_24 ?_
    refine va_alen hx hb hK hP 1 0 rfl rfl (v := 36) (by show Int32.ofNat 36 = 36; decide) dX6_copyFrom_27 ?_
    refine va_copyi hx hb (hml.trans hl.1.symm) hown (hts _ ml_X6_37) (hts _ ac_nat) (hts _ ac_st) (hts _ ac_ini) hK hP hD hS 3 1 0 0 rfl rfl rfl rfl rfl (sp := 0) (dp := 0) (n := 36) (by decide) (by decide) (by decide) (by decide) (by decide) (fun _ _ => rfl) (Nat.le_of_ble_eq_true rfl) (by decide) dX6_copyFrom_28 (fun H locs hP hD hS => ?_)
    have hP : va_P G.1 vwCl [(a_t, .inr (6, [.int 6, .int 6, .ref a_n, .int e_n])), (a_n, .inl (G.2 0, 36, .inl (va_cpy f_o f_n 0 0 36))), (a_o, .inr (6, [.int 6, .int 6, .ref a_on, .int e_o])), (a_on, .inl (G.2 0, 36, .inl f_o))] H := hP
    have hD : va_D A [(a_t, .inr (6, [.int 6, .int 6, .ref a_n, .int e_n])), (a_n, .inl (G.2 0, 36, .inl (va_cpy f_o f_n 0 0 36))), (a_o, .inr (6, [.int 6, .int 6, .ref a_on, .int e_o])), (a_on, .inl (G.2 0, 36, .inl f_o))] := hD
    refine lv_aload_n hx hb dX6_copyFrom_31 rfl (lv_at hl 0 rfl) ?_
    refine lv_aload_n hx hb dX6_copyFrom_32 rfl (lv_at hl 1 rfl) ?_
    refine va_get (D := G.1) (ci := 6) (v := .int e_o) (C := RX6) (T := TX6) (N := 4) hx hb hts inG_X6 hown hK hP 2 rfl rfl 3 (by decide) (hts _ fl_X6_9) (fun _ h9 => h9) rfl dX6_copyFrom_33 ?_
    refine va_put (D := G.1) (ci := 6) (v := .int e_o) (ty := .int) (C := RX6) (T := TX6) (N := 4) hx hb hts inG_X6 tyX6 tyX6_ok nmX6 hown hK hP hD hS 0 rfl rfl 3 (by decide) (hts _ fl_X6_9) (fun _ h9 => h9) rfl (by decide +kernel) rfl rfl (Nat.le_of_ble_eq_true rfl) dX6_copyFrom_36 (fun H locs hP hD hS => ?_)
    have hP : va_P G.1 vwCl [(a_t, .inr (6, [.int 6, .int 6, .ref a_n, .int e_o])), (a_n, .inl (G.2 0, 36, .inl (va_cpy f_o f_n 0 0 36))), (a_o, .inr (6, [.int 6, .int 6, .ref a_on, .int e_o])), (a_on, .inl (G.2 0, 36, .inl f_o))] H := hP
    have hD : va_D A [(a_t, .inr (6, [.int 6, .int 6, .ref a_n, .int e_o])), (a_n, .inl (G.2 0, 36, .inl (va_cpy f_o f_n 0 0 36))), (a_o, .inr (6, [.int 6, .int 6, .ref a_on, .int e_o])), (a_on, .inl (G.2 0, 36, .inl f_o))] := hD
    exact W.vret hx hb hr (fun t ht hW => ⟨⟨[(a_t, .inr (6, [.int 6, .int 6, .ref a_n, .int e_o])), (a_n, .inl (G.2 0, 36, .inl (va_cpy f_o f_n 0 0 36))), (a_o, .inr (6, [.int 6, .int 6, .ref a_on, .int e_o])), (a_on, .inl (G.2 0, 36, .inl f_o))], rfl, rfl, by rw [ht]; exact hP.sub [0, 1, 2, 3] rfl, hD.sub [0, 1, 2, 3] (by decide) rfl⟩, hS.F ht⟩) hS.2.2 dX6_copyFrom_39
